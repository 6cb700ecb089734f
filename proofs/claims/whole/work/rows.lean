section
-- ===== PART A: goes FIRST, ahead of the names: the tables' words, and 'selects' of the private methods out of them =====
/-- a private method of a class that the tables say can be made, by its rows of tables_1 -/
def lw_okq (q : MethodName × Nat) : Prop := (q.1.cls ≠ "java/lang/invoke/MethodHandle" ∧ q.1.cls ≠ "java/lang/invoke/VarHandle") ∧ Cond.instantiable q.1.cls q.2 ∈ tables_1 ∧ Cond.privateMethod q.1 ∈ tables_1 ∧ Cond.instanceMethod q.1 ∈ tables_1
theorem lw_p0 : lw_okq (⟨"LoopScheduler$Loop", "busyCycles", "(I)I"⟩, 10) := ⟨⟨by decide +kernel, by decide +kernel⟩, List.mem_of_getElem? (i := 22) (by decide +kernel), List.mem_of_getElem? (i := 134) (by decide +kernel), List.mem_of_getElem? (i := 135) (by decide +kernel)⟩
theorem lw_p1 : lw_okq (⟨"LoopScheduler$Loop", "raiseHeights", "(I)Z"⟩, 10) := ⟨⟨by decide +kernel, by decide +kernel⟩, List.mem_of_getElem? (i := 22) (by decide +kernel), List.mem_of_getElem? (i := 156) (by decide +kernel), List.mem_of_getElem? (i := 157) (by decide +kernel)⟩
theorem lw_p2 : lw_okq (⟨"java/lang/Throwable", "fillInStackTrace", "(I)Ljava/lang/Throwable;"⟩, 6) := ⟨⟨by decide +kernel, by decide +kernel⟩, List.mem_of_getElem? (i := 230) (by decide +kernel), List.mem_of_getElem? (i := 228) (by decide +kernel), List.mem_of_getElem? (i := 229) (by decide +kernel)⟩
theorem lw_p3 : lw_okq (⟨"LoopScheduler", "requireOperation", "(I)V"⟩, 3) := ⟨⟨by decide +kernel, by decide +kernel⟩, List.mem_of_getElem? (i := 14) (by decide +kernel), List.mem_of_getElem? (i := 316) (by decide +kernel), List.mem_of_getElem? (i := 317) (by decide +kernel)⟩
theorem lw_p4 : lw_okq (⟨"LoopScheduler$Timetable", "highestUnplaced", "()I"⟩, 5) := ⟨⟨by decide +kernel, by decide +kernel⟩, List.mem_of_getElem? (i := 80) (by decide +kernel), List.mem_of_getElem? (i := 363) (by decide +kernel), List.mem_of_getElem? (i := 364) (by decide +kernel)⟩
theorem lw_p5 : lw_okq (⟨"LoopScheduler$Timetable", "placeAtFirst", "(I)Z"⟩, 5) := ⟨⟨by decide +kernel, by decide +kernel⟩, List.mem_of_getElem? (i := 80) (by decide +kernel), List.mem_of_getElem? (i := 367) (by decide +kernel), List.mem_of_getElem? (i := 368) (by decide +kernel)⟩
theorem lw_p6 : lw_okq (⟨"LoopScheduler$Timetable", "earliestAllowed", "(I)I"⟩, 5) := ⟨⟨by decide +kernel, by decide +kernel⟩, List.mem_of_getElem? (i := 80) (by decide +kernel), List.mem_of_getElem? (i := 371) (by decide +kernel), List.mem_of_getElem? (i := 372) (by decide +kernel)⟩
theorem lw_p7 : lw_okq (⟨"LoopScheduler$Timetable", "latestAllowed", "(I)I"⟩, 5) := ⟨⟨by decide +kernel, by decide +kernel⟩, List.mem_of_getElem? (i := 80) (by decide +kernel), List.mem_of_getElem? (i := 376) (by decide +kernel), List.mem_of_getElem? (i := 377) (by decide +kernel)⟩
theorem lw_p8 : lw_okq (⟨"LoopScheduler$Timetable", "hasUnits", "(II)Z"⟩, 5) := ⟨⟨by decide +kernel, by decide +kernel⟩, List.mem_of_getElem? (i := 80) (by decide +kernel), List.mem_of_getElem? (i := 384) (by decide +kernel), List.mem_of_getElem? (i := 385) (by decide +kernel)⟩
theorem lw_p9 : lw_okq (⟨"LoopScheduler$Timetable", "place", "(II)V"⟩, 5) := ⟨⟨by decide +kernel, by decide +kernel⟩, List.mem_of_getElem? (i := 80) (by decide +kernel), List.mem_of_getElem? (i := 388) (by decide +kernel), List.mem_of_getElem? (i := 389) (by decide +kernel)⟩
theorem lw_p10 : lw_okq (⟨"LoopScheduler$Timetable", "changeTaken", "(III)V"⟩, 5) := ⟨⟨by decide +kernel, by decide +kernel⟩, List.mem_of_getElem? (i := 80) (by decide +kernel), List.mem_of_getElem? (i := 392) (by decide +kernel), List.mem_of_getElem? (i := 393) (by decide +kernel)⟩
theorem lw_p11 : lw_okq (⟨"LoopScheduler", "requireSchedule", "()V"⟩, 3) := ⟨⟨by decide +kernel, by decide +kernel⟩, List.mem_of_getElem? (i := 14) (by decide +kernel), List.mem_of_getElem? (i := 404) (by decide +kernel), List.mem_of_getElem? (i := 405) (by decide +kernel)⟩
theorem lw_p12 : lw_okq (⟨"LoopScheduler$Timetable", "lift", "(I)V"⟩, 5) := ⟨⟨by decide +kernel, by decide +kernel⟩, List.mem_of_getElem? (i := 80) (by decide +kernel), List.mem_of_getElem? (i := 428) (by decide +kernel), List.mem_of_getElem? (i := 429) (by decide +kernel)⟩
theorem lw_p13 : lw_okq (⟨"LoopScheduler", "requireRow", "(I)V"⟩, 3) := ⟨⟨by decide +kernel, by decide +kernel⟩, List.mem_of_getElem? (i := 14) (by decide +kernel), List.mem_of_getElem? (i := 465) (by decide +kernel), List.mem_of_getElem? (i := 466) (by decide +kernel)⟩
theorem lw_p14 : lw_okq (⟨"LoopScheduler", "isIssued", "(III)Z"⟩, 3) := ⟨⟨by decide +kernel, by decide +kernel⟩, List.mem_of_getElem? (i := 14) (by decide +kernel), List.mem_of_getElem? (i := 548) (by decide +kernel), List.mem_of_getElem? (i := 549) (by decide +kernel)⟩
theorem lw_p15 : lw_okq (⟨"LoopScheduler", "countIssuedBefore", "(III)I"⟩, 3) := ⟨⟨by decide +kernel, by decide +kernel⟩, List.mem_of_getElem? (i := 14) (by decide +kernel), List.mem_of_getElem? (i := 559) (by decide +kernel), List.mem_of_getElem? (i := 560) (by decide +kernel)⟩
def lw_privs_1 : List (MethodName × Nat) := [(⟨"LoopScheduler$Loop", "busyCycles", "(I)I"⟩, 10), (⟨"LoopScheduler$Loop", "raiseHeights", "(I)Z"⟩, 10), (⟨"java/lang/Throwable", "fillInStackTrace", "(I)Ljava/lang/Throwable;"⟩, 6), (⟨"LoopScheduler", "requireOperation", "(I)V"⟩, 3), (⟨"LoopScheduler$Timetable", "highestUnplaced", "()I"⟩, 5), (⟨"LoopScheduler$Timetable", "placeAtFirst", "(I)Z"⟩, 5), (⟨"LoopScheduler$Timetable", "earliestAllowed", "(I)I"⟩, 5), (⟨"LoopScheduler$Timetable", "latestAllowed", "(I)I"⟩, 5), (⟨"LoopScheduler$Timetable", "hasUnits", "(II)Z"⟩, 5), (⟨"LoopScheduler$Timetable", "place", "(II)V"⟩, 5), (⟨"LoopScheduler$Timetable", "changeTaken", "(III)V"⟩, 5), (⟨"LoopScheduler", "requireSchedule", "()V"⟩, 3), (⟨"LoopScheduler$Timetable", "lift", "(I)V"⟩, 5), (⟨"LoopScheduler", "requireRow", "(I)V"⟩, 3), (⟨"LoopScheduler", "isIssued", "(III)Z"⟩, 3), (⟨"LoopScheduler", "countIssuedBefore", "(III)I"⟩, 3)]
theorem lw_r1 : ∀ q ∈ lw_privs_1, lw_okq q := List.forall_mem_cons.mpr ⟨lw_p0, List.forall_mem_cons.mpr ⟨lw_p1, List.forall_mem_cons.mpr ⟨lw_p2, List.forall_mem_cons.mpr ⟨lw_p3, List.forall_mem_cons.mpr ⟨lw_p4, List.forall_mem_cons.mpr ⟨lw_p5, List.forall_mem_cons.mpr ⟨lw_p6, List.forall_mem_cons.mpr ⟨lw_p7, List.forall_mem_cons.mpr ⟨lw_p8, List.forall_mem_cons.mpr ⟨lw_p9, List.forall_mem_cons.mpr ⟨lw_p10, List.forall_mem_cons.mpr ⟨lw_p11, List.forall_mem_cons.mpr ⟨lw_p12, List.forall_mem_cons.mpr ⟨lw_p13, List.forall_mem_cons.mpr ⟨lw_p14, List.forall_mem_cons.mpr ⟨lw_p15, fun _ h => absurd h List.not_mem_nil⟩⟩⟩⟩⟩⟩⟩⟩⟩⟩⟩⟩⟩⟩⟩⟩
theorem lw_p16 : lw_okq (⟨"LoopScheduler", "issueNumber", "(II)I"⟩, 3) := ⟨⟨by decide +kernel, by decide +kernel⟩, List.mem_of_getElem? (i := 14) (by decide +kernel), List.mem_of_getElem? (i := 563) (by decide +kernel), List.mem_of_getElem? (i := 564) (by decide +kernel)⟩
theorem lw_p17 : lw_okq (⟨"LoopSchedulerModel", "no", "(I)I"⟩, 16) := ⟨⟨by decide +kernel, by decide +kernel⟩, List.mem_of_getElem? (i := 586) (by decide +kernel), List.mem_of_getElem? (i := 653) (by decide +kernel), List.mem_of_getElem? (i := 654) (by decide +kernel)⟩
theorem lw_p18 : lw_okq (⟨"LoopSchedulerModel", "isOperation", "(I)Z"⟩, 16) := ⟨⟨by decide +kernel, by decide +kernel⟩, List.mem_of_getElem? (i := 586) (by decide +kernel), List.mem_of_getElem? (i := 665) (by decide +kernel), List.mem_of_getElem? (i := 666) (by decide +kernel)⟩
theorem lw_p19 : lw_okq (⟨"LoopSchedulerModel", "byResources", "()I"⟩, 16) := ⟨⟨by decide +kernel, by decide +kernel⟩, List.mem_of_getElem? (i := 586) (by decide +kernel), List.mem_of_getElem? (i := 685) (by decide +kernel), List.mem_of_getElem? (i := 686) (by decide +kernel)⟩
theorem lw_p20 : lw_okq (⟨"LoopSchedulerModel", "byRecurrences", "()I"⟩, 16) := ⟨⟨by decide +kernel, by decide +kernel⟩, List.mem_of_getElem? (i := 586) (by decide +kernel), List.mem_of_getElem? (i := 693) (by decide +kernel), List.mem_of_getElem? (i := 694) (by decide +kernel)⟩
theorem lw_p21 : lw_okq (⟨"LoopSchedulerModel", "findHeights", "(I)Z"⟩, 16) := ⟨⟨by decide +kernel, by decide +kernel⟩, List.mem_of_getElem? (i := 586) (by decide +kernel), List.mem_of_getElem? (i := 697) (by decide +kernel), List.mem_of_getElem? (i := 698) (by decide +kernel)⟩
theorem lw_p22 : lw_okq (⟨"LoopSchedulerModel", "grow", "(I)Z"⟩, 16) := ⟨⟨by decide +kernel, by decide +kernel⟩, List.mem_of_getElem? (i := 586) (by decide +kernel), List.mem_of_getElem? (i := 701) (by decide +kernel), List.mem_of_getElem? (i := 702) (by decide +kernel)⟩
theorem lw_p23 : lw_okq (⟨"LoopSchedulerModel", "lengthOf", "(II)I"⟩, 16) := ⟨⟨by decide +kernel, by decide +kernel⟩, List.mem_of_getElem? (i := 586) (by decide +kernel), List.mem_of_getElem? (i := 705) (by decide +kernel), List.mem_of_getElem? (i := 706) (by decide +kernel)⟩
theorem lw_p24 : lw_okq (⟨"LoopSchedulerModel", "attempt", "(I)Z"⟩, 16) := ⟨⟨by decide +kernel, by decide +kernel⟩, List.mem_of_getElem? (i := 586) (by decide +kernel), List.mem_of_getElem? (i := 718) (by decide +kernel), List.mem_of_getElem? (i := 719) (by decide +kernel)⟩
theorem lw_p25 : lw_okq (⟨"LoopSchedulerModel", "next", "()I"⟩, 16) := ⟨⟨by decide +kernel, by decide +kernel⟩, List.mem_of_getElem? (i := 586) (by decide +kernel), List.mem_of_getElem? (i := 722) (by decide +kernel), List.mem_of_getElem? (i := 723) (by decide +kernel)⟩
theorem lw_p26 : lw_okq (⟨"LoopSchedulerModel", "place", "(II)Z"⟩, 16) := ⟨⟨by decide +kernel, by decide +kernel⟩, List.mem_of_getElem? (i := 586) (by decide +kernel), List.mem_of_getElem? (i := 726) (by decide +kernel), List.mem_of_getElem? (i := 727) (by decide +kernel)⟩
theorem lw_p27 : lw_okq (⟨"LoopSchedulerModel", "fits", "(I)Z"⟩, 16) := ⟨⟨by decide +kernel, by decide +kernel⟩, List.mem_of_getElem? (i := 586) (by decide +kernel), List.mem_of_getElem? (i := 732) (by decide +kernel), List.mem_of_getElem? (i := 733) (by decide +kernel)⟩
theorem lw_p28 : lw_okq (⟨"LoopSchedulerModel", "count", "(III)Z"⟩, 16) := ⟨⟨by decide +kernel, by decide +kernel⟩, List.mem_of_getElem? (i := 586) (by decide +kernel), List.mem_of_getElem? (i := 736) (by decide +kernel), List.mem_of_getElem? (i := 737) (by decide +kernel)⟩
theorem lw_p29 : lw_okq (⟨"LoopSchedulerModel", "has", "()Z"⟩, 16) := ⟨⟨by decide +kernel, by decide +kernel⟩, List.mem_of_getElem? (i := 586) (by decide +kernel), List.mem_of_getElem? (i := 752) (by decide +kernel), List.mem_of_getElem? (i := 753) (by decide +kernel)⟩
theorem lw_p30 : lw_okq (⟨"LoopSchedulerModel", "asks", "(I)Z"⟩, 16) := ⟨⟨by decide +kernel, by decide +kernel⟩, List.mem_of_getElem? (i := 586) (by decide +kernel), List.mem_of_getElem? (i := 760) (by decide +kernel), List.mem_of_getElem? (i := 761) (by decide +kernel)⟩
theorem lw_p31 : lw_okq (⟨"LoopSchedulerModel", "isValidWith", "(II)Z"⟩, 16) := ⟨⟨by decide +kernel, by decide +kernel⟩, List.mem_of_getElem? (i := 586) (by decide +kernel), List.mem_of_getElem? (i := 768) (by decide +kernel), List.mem_of_getElem? (i := 769) (by decide +kernel)⟩
def lw_privs_2 : List (MethodName × Nat) := [(⟨"LoopScheduler", "issueNumber", "(II)I"⟩, 3), (⟨"LoopSchedulerModel", "no", "(I)I"⟩, 16), (⟨"LoopSchedulerModel", "isOperation", "(I)Z"⟩, 16), (⟨"LoopSchedulerModel", "byResources", "()I"⟩, 16), (⟨"LoopSchedulerModel", "byRecurrences", "()I"⟩, 16), (⟨"LoopSchedulerModel", "findHeights", "(I)Z"⟩, 16), (⟨"LoopSchedulerModel", "grow", "(I)Z"⟩, 16), (⟨"LoopSchedulerModel", "lengthOf", "(II)I"⟩, 16), (⟨"LoopSchedulerModel", "attempt", "(I)Z"⟩, 16), (⟨"LoopSchedulerModel", "next", "()I"⟩, 16), (⟨"LoopSchedulerModel", "place", "(II)Z"⟩, 16), (⟨"LoopSchedulerModel", "fits", "(I)Z"⟩, 16), (⟨"LoopSchedulerModel", "count", "(III)Z"⟩, 16), (⟨"LoopSchedulerModel", "has", "()Z"⟩, 16), (⟨"LoopSchedulerModel", "asks", "(I)Z"⟩, 16), (⟨"LoopSchedulerModel", "isValidWith", "(II)Z"⟩, 16)]
theorem lw_r2 : ∀ q ∈ lw_privs_2, lw_okq q := List.forall_mem_cons.mpr ⟨lw_p16, List.forall_mem_cons.mpr ⟨lw_p17, List.forall_mem_cons.mpr ⟨lw_p18, List.forall_mem_cons.mpr ⟨lw_p19, List.forall_mem_cons.mpr ⟨lw_p20, List.forall_mem_cons.mpr ⟨lw_p21, List.forall_mem_cons.mpr ⟨lw_p22, List.forall_mem_cons.mpr ⟨lw_p23, List.forall_mem_cons.mpr ⟨lw_p24, List.forall_mem_cons.mpr ⟨lw_p25, List.forall_mem_cons.mpr ⟨lw_p26, List.forall_mem_cons.mpr ⟨lw_p27, List.forall_mem_cons.mpr ⟨lw_p28, List.forall_mem_cons.mpr ⟨lw_p29, List.forall_mem_cons.mpr ⟨lw_p30, List.forall_mem_cons.mpr ⟨lw_p31, fun _ h => absurd h List.not_mem_nil⟩⟩⟩⟩⟩⟩⟩⟩⟩⟩⟩⟩⟩⟩⟩⟩
theorem lw_p32 : lw_okq (⟨"LoopSchedulerModel", "isValid", "()Z"⟩, 16) := ⟨⟨by decide +kernel, by decide +kernel⟩, List.mem_of_getElem? (i := 586) (by decide +kernel), List.mem_of_getElem? (i := 772) (by decide +kernel), List.mem_of_getElem? (i := 773) (by decide +kernel)⟩
theorem lw_p33 : lw_okq (⟨"LoopSchedulerModel", "stageCount", "()I"⟩, 16) := ⟨⟨by decide +kernel, by decide +kernel⟩, List.mem_of_getElem? (i := 586) (by decide +kernel), List.mem_of_getElem? (i := 784) (by decide +kernel), List.mem_of_getElem? (i := 785) (by decide +kernel)⟩
theorem lw_p34 : lw_okq (⟨"LoopSchedulerModel", "latest", "()I"⟩, 16) := ⟨⟨by decide +kernel, by decide +kernel⟩, List.mem_of_getElem? (i := 586) (by decide +kernel), List.mem_of_getElem? (i := 788) (by decide +kernel), List.mem_of_getElem? (i := 789) (by decide +kernel)⟩
theorem lw_p35 : lw_okq (⟨"LoopSchedulerModel", "takenIn", "(III)I"⟩, 16) := ⟨⟨by decide +kernel, by decide +kernel⟩, List.mem_of_getElem? (i := 586) (by decide +kernel), List.mem_of_getElem? (i := 796) (by decide +kernel), List.mem_of_getElem? (i := 797) (by decide +kernel)⟩
theorem lw_p36 : lw_okq (⟨"LoopSchedulerModel", "lifeOf", "(I)I"⟩, 16) := ⟨⟨by decide +kernel, by decide +kernel⟩, List.mem_of_getElem? (i := 586) (by decide +kernel), List.mem_of_getElem? (i := 804) (by decide +kernel), List.mem_of_getElem? (i := 805) (by decide +kernel)⟩
theorem lw_p37 : lw_okq (⟨"LoopSchedulerModel", "liveIn", "(I)I"⟩, 16) := ⟨⟨by decide +kernel, by decide +kernel⟩, List.mem_of_getElem? (i := 586) (by decide +kernel), List.mem_of_getElem? (i := 812) (by decide +kernel), List.mem_of_getElem? (i := 813) (by decide +kernel)⟩
theorem lw_p38 : lw_okq (⟨"LoopSchedulerModel", "copiesOf", "(I)I"⟩, 16) := ⟨⟨by decide +kernel, by decide +kernel⟩, List.mem_of_getElem? (i := 586) (by decide +kernel), List.mem_of_getElem? (i := 824) (by decide +kernel), List.mem_of_getElem? (i := 825) (by decide +kernel)⟩
theorem lw_p39 : lw_okq (⟨"LoopSchedulerModel", "issuedIn", "(II)I"⟩, 16) := ⟨⟨by decide +kernel, by decide +kernel⟩, List.mem_of_getElem? (i := 586) (by decide +kernel), List.mem_of_getElem? (i := 841) (by decide +kernel), List.mem_of_getElem? (i := 842) (by decide +kernel)⟩
theorem lw_p40 : lw_okq (⟨"LoopSchedulerModel", "issueAt", "(III)I"⟩, 16) := ⟨⟨by decide +kernel, by decide +kernel⟩, List.mem_of_getElem? (i := 586) (by decide +kernel), List.mem_of_getElem? (i := 849) (by decide +kernel), List.mem_of_getElem? (i := 850) (by decide +kernel)⟩
def lw_privs_3 : List (MethodName × Nat) := [(⟨"LoopSchedulerModel", "isValid", "()Z"⟩, 16), (⟨"LoopSchedulerModel", "stageCount", "()I"⟩, 16), (⟨"LoopSchedulerModel", "latest", "()I"⟩, 16), (⟨"LoopSchedulerModel", "takenIn", "(III)I"⟩, 16), (⟨"LoopSchedulerModel", "lifeOf", "(I)I"⟩, 16), (⟨"LoopSchedulerModel", "liveIn", "(I)I"⟩, 16), (⟨"LoopSchedulerModel", "copiesOf", "(I)I"⟩, 16), (⟨"LoopSchedulerModel", "issuedIn", "(II)I"⟩, 16), (⟨"LoopSchedulerModel", "issueAt", "(III)I"⟩, 16)]
theorem lw_r3 : ∀ q ∈ lw_privs_3, lw_okq q := List.forall_mem_cons.mpr ⟨lw_p32, List.forall_mem_cons.mpr ⟨lw_p33, List.forall_mem_cons.mpr ⟨lw_p34, List.forall_mem_cons.mpr ⟨lw_p35, List.forall_mem_cons.mpr ⟨lw_p36, List.forall_mem_cons.mpr ⟨lw_p37, List.forall_mem_cons.mpr ⟨lw_p38, List.forall_mem_cons.mpr ⟨lw_p39, List.forall_mem_cons.mpr ⟨lw_p40, fun _ h => absurd h List.not_mem_nil⟩⟩⟩⟩⟩⟩⟩⟩⟩
def lw_privs : List (MethodName × Nat) := lw_privs_1 ++ (lw_privs_2 ++ (lw_privs_3))
def lw_tbl : List Cond := k2_sels lw_privs ++ tables_1
theorem lw_privs_ok : ∀ q ∈ lw_privs, lw_okq q := by
  show ∀ q ∈ lw_privs_1 ++ (lw_privs_2 ++ (lw_privs_3)), lw_okq q
  exact List.forall_mem_append.mpr ⟨lw_r1, List.forall_mem_append.mpr ⟨lw_r2, lw_r3⟩⟩
-- a word of the tables that the printed names speak of: an array class over rows
def va_AOA (t : FieldType) (U : State) : Prop := (Cond.arrayOver (.array t)).before #[] U = true
theorem va_AOA.of {t : FieldType} {A : Array Value} {U : State} (h : (Cond.arrayOver (.array t)).before A U = true) : va_AOA t U := h
theorem va_AOA.use {t : FieldType} {A : Array Value} {U : State} (h : va_AOA t U) : (Cond.arrayOver (.array t)).before A U = true := h
end
section
/-! ===== BEGIN words of one list among another's, by their places ===== -/
theorem goodIn_r {big : List Cond} (ws : List Cond) (ps : List Nat) (hp : ws = ps.filterMap (fun i => big[i]?)) (h : ws.all goodWord = true) : GoodIn big ws := by
  intro w hw
  have h1 := List.all_eq_true.mp h w hw
  rw [hp] at hw
  obtain ⟨i, -, hi⟩ := List.mem_filterMap.mp hw
  have hm : w ∈ big := by first | exact List.mem_of_getElem? hi | exact List.getElem?_mem hi
  exact ⟨hm, good_of_word h1⟩
theorem goodIn_app {big a b : List Cond} (ha : GoodIn big a) (hb : GoodIn big b) : GoodIn big (a ++ b) := fun w h => (List.mem_append.mp h).elim (ha w) (hb w)
theorem goodIn_ca {big a b : List Cond} {c : Cond} (ha : GoodIn big (c :: a)) (hb : GoodIn big b) : GoodIn big (c :: (a ++ b)) := fun w h => (List.mem_cons.mp h).elim (fun e => ha w (List.mem_cons.mpr (Or.inl e))) (fun h => (List.mem_append.mp h).elim (fun h => ha w (List.mem_cons.mpr (Or.inr h))) (hb w))
theorem goodIn_sub {big ws : List Cond} (hm : ∀ w ∈ ws, w ∈ big) (h : ws.all goodWord = true) : GoodIn big ws := fun w hw => ⟨hm w hw, good_of_word (List.all_eq_true.mp h w hw)⟩
/-! ===== END ===== -/

/-! ===== BEGIN new T[n][m]: the outer array a place, the inner ones among the pooled ===== -/
/-- f, but v at every address of l -/
def vr_up {α : Type} (f : Nat → α) (l : List Nat) (v : α) : Nat → α := fun a => if a ∈ l then v else f a
theorem vr_up_in {α : Type} {f : Nat → α} {l : List Nat} {v : α} {a : Nat} (h : a ∈ l) : vr_up f l v a = v := if_pos h
theorem vr_up_ne {α : Type} {f : Nat → α} {l : List Nat} {v : α} {a : Nat} (h : a ∉ l) : vr_up f l v a = f a := if_neg h
theorem vr_rows {L l : List Nat} {f : Nat → va_E} {e : va_E} (h : ∀ a, a ∈ l → a ∉ L) : va_pl L f ++ l.map (fun a => (a, e)) = va_pl (L ++ l) (vr_up f l e) := by
  unfold va_pl
  rw [List.map_append]
  congr 1
  · apply List.map_congr_left
    intro a ha
    rw [vr_up_ne (fun q => h a q ha)]
  · apply List.map_congr_left
    intro a ha
    rw [vr_up_in ha]
theorem vr_lay {X rows : va_W} {x : Nat × va_E} {pl : va_W} {D : va_G} {cl : List vw_C} {H : Heap} (hP : va_P D cl (((X ++ pl) ++ [x]) ++ rows) H) : va_P D cl ((X ++ [x]) ++ (pl ++ rows)) H := by
  rw [List.append_assoc (X ++ pl)] at hP
  have h := va_P.swap hP
  rw [← List.append_assoc X] at h
  have h2 := va_P.swap h
  rw [List.append_assoc (X ++ [x])] at h2
  exact h2
theorem vr_layD {X rows : va_W} {x : Nat × va_E} {pl : va_W} {A : Nat → Prop} (hD : va_D A (((X ++ pl) ++ [x]) ++ rows)) : va_D A ((X ++ [x]) ++ (pl ++ rows)) := by
  rw [List.append_assoc (X ++ pl)] at hD
  have h := va_D.swap hD
  rw [← List.append_assoc X] at h
  have h2 := va_D.swap h
  rw [List.append_assoc (X ++ [x])] at h2
  exact h2
theorem vr_outer (c : ClassId) (N h0 : Nat) : ∀ i : Nat, Jvm.Free.Multi.outerC c N h0 i = arrV c N (fun j => va_rf (if j < i then some (h0 + 1 + j) else none))
  | 0 => by
    show ({ cls := c, slots := Array.replicate N .null, vm := .none } : Cell) = _
    rw [arrV_new]
    refine congrArg (arrV c N) (funext fun j => ?_)
    simp [va_rf]
  | i + 1 => by
    show (Jvm.Free.Multi.outerC c N h0 i).setSlot i (.ref (h0 + 1 + i)) = _
    rw [vr_outer c N h0 i, arrV_store]
    refine congrArg (arrV c N) (funext fun j => ?_)
    by_cases e : j = i
    · subst e
      simp [updV, va_rf]
    · by_cases h : j < i
      · simp [updV, e, h, Nat.lt_succ_of_lt h]
      · simp [updV, e, h, show ¬ j < i + 1 by omega]
section VGM
variable {p : Program} {l : Launch} {e : Env} {R : Room} {s : State} {m : MethodId} {args : Array Value} {below : List Frame} {meth : Method} {c : Code} {H : Heap} {locs : List Loc} {cells slots : Nat} {Q : State → Prop}
variable {cc : ByteArray} {pc : Nat} {ls : Array Slot} {rest : List Value} {D : va_G} {cl : List vw_C} {A : Nat → Prop} {a : Nat} {tys : List (ClassId × FieldType)} {ws : va_W} {H0 : Heap}
theorem va_mna {X : va_W} {L : List Nat} {f : Nat → va_E} {cc : ByteArray} (hexec : p.tables.exec = Jvm.exec) (hb : c.code = cc) {own : String} {index : Nat} {ty : FieldType} {cy : ClassId} (hown : s.vm.findClass own = some m.cls) (hclink : (Cond.classLink own index ("[" ++ (FieldType.array ty).toString)).before args s = true) (hover : va_AOA ty s) (harr : (Cond.arrayClass ty).before args s = true) (hcy : s.vm.findClass (FieldType.array ty).toString = some cy)
    (hK : va_K D cl tys s) (hP : va_P D cl (X ++ va_pl L f) H) (hD : va_D A (X ++ va_pl L f)) (hS : va_S A H0 H locs) (hA : ∀ q, H0.size ≤ q → A q) {n k : Int32} {N' K' : Nat} {z : vp_A} (hn : ¬ n < 0) (hk : ¬ k < 0) (hN : n.toNatClampNeg = N') (hM : k.toNatClampNeg = K')
    (hb1 : N' * 4 ≤ 536870912) (hb2 : K' * componentBytes ty ≤ 536870912) (hb3 : K' ≤ 536870912) (hdf : fits ty (defaultValue ty) = true) (hdd : (defaultValue ty).isDefault = true) (hcells : cells + (1 + N') ≤ R.cells) (hslots : slots + (N' + N' * K') ≤ R.slots) (hz : ∀ c : ClassId, Jvm.Free.Multi.innerC c K' (defaultValue ty) = vp_cell c z) (hdg : decode cc pc = .ok (.multianewarray index 2, 4))
    (kk : ∀ (q : Nat) (r : Nat → Nat) (cA : ClassId) (H1 : Heap), (∀ i j : Nat, i < N' → j < N' → r i = r j → i = j) → (∀ i : Nat, i < N' → r i ∉ L) → va_K D cl (tys ++ [(cA, .array ty)]) s →
      va_P D cl ((X ++ [(q, .inl (cA, N', .inr (.inr (.inr (.inr (fun i => if i < N' then some (r i) else none))))))]) ++ va_pl (L ++ (List.range N').map r) (vr_up f ((List.range N').map r) (.inl (cy, z)))) H1 → va_D A ((X ++ [(q, .inl (cA, N', .inr (.inr (.inr (.inr (fun i => if i < N' then some (r i) else none))))))]) ++ va_pl (L ++ (List.range N').map r) (vr_up f ((List.range N').map r) (.inl (cy, z)))) → va_S A H0 H1 locs →
      W p l e R s m args below meth c H1 locs (cells + 1 + N') (slots + N' + N' * K') Q (F0 m (pc + 4) ls (.ref q :: rest))) : W p l e R s m args below meth c H locs cells slots Q (F0 m pc ls (.int k :: .int n :: rest)) := by
  subst hN
  subst hM
  intro T hT Xs
  obtain ⟨vm₁, cA, comp, -, fA, fC, hO, -, X', step⟩ := Xs.multianewarray2F hexec hown hclink (va_AOA.use hover) harr (g := F0 m pc ls (.int k :: .int n :: rest)) rfl (by rw [hb]; exact hdg) rfl hn hk hb1 hb2 hb3 hdf hdd hcells hslots
  have ec : some cy = some comp := hcy.symm.trans fC
  cases ec
  generalize hF : Jvm.Free.Multi.fill (T.setVm vm₁) cA cy n.toNatClampNeg k.toNatClampNeg (defaultValue ty) n.toNatClampNeg = F at X' step
  have hTh : (T.setVm vm₁).heap = H := hT
  obtain ⟨f1, f2, -, -⟩ := Jvm.Free.Multi.fill_facts (T.setVm vm₁) cA cy n.toNatClampNeg k.toNatClampNeg (defaultValue ty) n.toNatClampNeg
  rw [hF, hTh] at f1 f2
  have hold : ∀ x : Nat, x < H.size → F.heap[x]? = H[x]? := fun x hx => by
    have := Jvm.Free.Multi.fill_old (T.setVm vm₁) cA cy n.toNatClampNeg k.toNatClampNeg (defaultValue ty) (a := x) (by rw [hTh]; exact hx) n.toNatClampNeg
    rw [hF, hTh] at this
    exact this
  have hrow : ∀ j : Nat, j < n.toNatClampNeg → F.heap[H.size + 1 + j]? = some (vp_cell cy z) := fun j hj => by
    have := Jvm.Free.Multi.fill_inner (T.setVm vm₁) cA cy n.toNatClampNeg k.toNatClampNeg (defaultValue ty) n.toNatClampNeg j hj
    rw [hF, hTh, hz] at this
    exact this
  have hout : Jvm.Free.Multi.outerC cA n.toNatClampNeg H.size n.toNatClampNeg = vp_cell cA (n.toNatClampNeg, .inr (.inr (.inr (.inr (fun i => if i < n.toNatClampNeg then some (H.size + 1 + i) else none))))) := by
    rw [vp_cell_q]
    exact vr_outer cA n.toNatClampNeg H.size n.toNatClampNeg
  rw [hout] at f2
  have hlt : ∀ a, a ∈ L → a < H.size := fun a ha => by
    obtain ⟨k9, hk9⟩ := va_pl_get (X := X) (f := f) ha
    exact (hP k9 _ hk9).lt
  have hnl : ∀ i : Nat, i < n.toNatClampNeg → H.size + 1 + i ∉ L := fun i _ h => by
    have := hlt _ h
    omega
  have hnm : ∀ a, a ∈ (List.range n.toNatClampNeg).map (fun i => H.size + 1 + i) → a ∉ L := fun a ha h => by
    obtain ⟨i, -, rfl⟩ := List.mem_map.mp ha
    have := hlt _ h
    omega
  have hP0 : va_P D cl (X ++ va_pl L f) F.heap := hP.kept (fun k9 x hx => hold x.1 ((hP k9 x hx).lt))
  have hP1 : va_P D cl ((X ++ va_pl L f) ++ [(H.size, .inl (cA, n.toNatClampNeg, .inr (.inr (.inr (.inr (fun i => if i < n.toNatClampNeg then some (H.size + 1 + i) else none))))))]) F.heap := hP0.app (fun k9 x hx => by
    have h0 : k9 < 1 := (List.getElem?_eq_some_iff.mp hx).1
    rw [show k9 = 0 by omega] at hx
    cases hx
    exact f2)
  have hP2 : va_P D cl (((X ++ va_pl L f) ++ [(H.size, .inl (cA, n.toNatClampNeg, .inr (.inr (.inr (.inr (fun i => if i < n.toNatClampNeg then some (H.size + 1 + i) else none))))))]) ++ ((List.range n.toNatClampNeg).map (fun i => H.size + 1 + i)).map (fun a => (a, .inl (cy, z)))) F.heap := hP1.app (fun k9 x hx => by
    obtain ⟨a, ha, rfl⟩ := List.mem_map.mp (List.mem_of_getElem? hx)
    obtain ⟨i, hi, rfl⟩ := List.mem_map.mp ha
    exact hrow i (List.mem_range.mp hi))
  have hD2 : va_D A (((X ++ va_pl L f) ++ [(H.size, .inl (cA, n.toNatClampNeg, .inr (.inr (.inr (.inr (fun i => if i < n.toNatClampNeg then some (H.size + 1 + i) else none))))))]) ++ ((List.range n.toNatClampNeg).map (fun i => H.size + 1 + i)).map (fun a => (a, .inl (cy, z)))) := by
    have hD1 := hD.push (e := .inl (cA, n.toNatClampNeg, .inr (.inr (.inr (.inr (fun i => if i < n.toNatClampNeg then some (H.size + 1 + i) else none)))))) hP rfl (hA _ hS.1)
    generalize hW1 : (X ++ va_pl L f) ++ [(H.size, .inl (cA, n.toNatClampNeg, .inr (.inr (.inr (.inr (fun i => if i < n.toNatClampNeg then some (H.size + 1 + i) else none))))))] = W1 at hD1 hP1 ⊢
    have hle : ∀ (k9 : Nat) (x : Nat × va_E), W1[k9]? = some x → x.1 ≤ H.size := fun k9 x hx => by
      rw [← hW1] at hx
      by_cases hl : k9 < (X ++ va_pl L f).length
      · rw [List.getElem?_append_left hl] at hx
        exact Nat.le_of_lt ((hP k9 x hx).lt)
      · rw [List.getElem?_append_right (by omega)] at hx
        have h0 : k9 - (X ++ va_pl L f).length < 1 := (List.getElem?_eq_some_iff.mp hx).1
        rw [show k9 - (X ++ va_pl L f).length = 0 by omega] at hx
        cases hx
        exact Nat.le_refl _
    have hr : ∀ (k9 : Nat) (x : Nat × va_E), (((List.range n.toNatClampNeg).map (fun i => H.size + 1 + i)).map (fun a => ((a, .inl (cy, z)) : Nat × va_E)))[k9]? = some x → x.1 = H.size + 1 + k9 := fun k9 x hx => by
      rw [List.getElem?_map, List.getElem?_map] at hx
      by_cases h9 : k9 < n.toNatClampNeg
      · rw [List.getElem?_range h9] at hx
        cases hx
        rfl
      · have hn0 : (List.range n.toNatClampNeg)[k9]? = none := List.getElem?_eq_none (by rw [List.length_range]; omega)
        rw [hn0] at hx
        cases hx
    refine ⟨fun i j x y hi hj hxy => ?_, fun k9 x hx => ?_⟩
    · by_cases h1 : i < W1.length <;> by_cases h2 : j < W1.length
      · rw [List.getElem?_append_left h1] at hi
        rw [List.getElem?_append_left h2] at hj
        exact hD1.1 i j x y hi hj hxy
      · rw [List.getElem?_append_left h1] at hi
        rw [List.getElem?_append_right (by omega)] at hj
        have := hle _ _ hi
        have := hr _ _ hj
        omega
      · rw [List.getElem?_append_right (by omega)] at hi
        rw [List.getElem?_append_left h2] at hj
        have := hle _ _ hj
        have := hr _ _ hi
        omega
      · rw [List.getElem?_append_right (by omega)] at hi hj
        have := hr _ _ hi
        have := hr _ _ hj
        omega
    · by_cases h1 : k9 < W1.length
      · rw [List.getElem?_append_left h1] at hx
        exact hD1.2 k9 x hx
      · rw [List.getElem?_append_right (by omega)] at hx
        have := hr _ _ hx
        exact hA _ (by have := hS.1; omega)
  have hAr : ArrOfT s cA (.array ty) := fun N9 z9 => by
    obtain ⟨-, k9, hk9, cm9, hkk9⟩ := (hO 0 0 0).1
    exact ⟨(fun q hq => by cases hq), k9, hk9, cm9, hkk9⟩
  have hK2 : va_K D cl (tys ++ [(cA, .array ty)]) s := ⟨hK.1, fun k9 x hx => by
    by_cases hl : k9 < tys.length
    · rw [List.getElem?_append_left hl] at hx
      exact hK.2 k9 x hx
    · rw [List.getElem?_append_right (by omega)] at hx
      have h0 : k9 - tys.length < 1 := (List.getElem?_eq_some_iff.mp hx).1
      rw [show k9 - tys.length = 0 by omega] at hx
      cases hx
      exact ⟨hAr, fA⟩⟩
  obtain ⟨t, a1, b1⟩ := kk H.size (fun i => H.size + 1 + i) cA F.heap (fun i j _ _ h => by have h9 : H.size + 1 + i = H.size + 1 + j := h; omega) hnl hK2 (by rw [← vr_rows hnm]; exact vr_lay hP2) (by rw [← vr_rows hnm]; exact vr_layD hD2) ⟨by rw [f1]; have := hS.1; omega, fun x h1 h2 => (hold x (Nat.lt_of_lt_of_le h1 hS.1)).trans (hS.2.1 x h1 h2), hS.2.2⟩ F rfl X'
  refine ⟨t, step t ?_, b1⟩
  have e : T.heap.size = H.size := by rw [hT]
  rw [e]
  exact a1
end VGM
/-! ===== END ===== -/

/-! ===== BEGIN exceptions that leave a method, and their catching by the caller (launches without stack traces) ===== -/
section VXA
/-! The laws vx_back, vx_callV, vx_callS, vx_callSW, vx_throw0, vx_throwS follow proofs of the library, with one case more: JvmDerived/Free/Laws.lean (Back.of_free), Shelf42/LK1.lean (callV, callS), Shelf/KitTraced.lean (throwNew0V, throwNewS). -/
/-- where a method has thrown q: the class by its name, the cell, what was written, the world -/
def vx_T (XC : String → State → State → Prop) (st : State) (q : Addr) (t : State) (mc ms : Nat) (free : Addr → Prop) : Prop :=
  ∃ (E : String) (ce : Cell) (L : List Loc), XC E st t ∧ t.heap[q]? = some ce ∧ ce.vm = .none ∧ st.vm.findClass E = some ce.cls ∧ st.WarmedH t.vm ∧ st.sameButNew ({ t with vm := st.vm } : State) L mc ms ∧ ∀ z ∈ L, free z.base
def vx_Q (Qc : Array Value → State → Outcome → State → Prop) (XC : String → State → State → Prop) (mc ms : Nat) (free : Addr → Prop) : Array Value → State → Outcome → State → Prop := fun a st o t =>
  (Qc a st o t ∧ ∃ L, FrameEnd st o t L mc ms ∧ ∀ q ∈ L, free q.base) ∨ ∃ q, o = .threw q ∧ vx_T XC st q t mc ms free
/-- a callee that returns or throws -/
def vx_Met (l : Launch) (y : MethodName) (ws : List Cond) (rm : Room) (Pc : Array Value → State → Prop) (Qc : Array Value → State → Outcome → State → Prop) (XC : String → State → State → Prop) (mc ms : Nat) (free : Addr → Prop) : Prop :=
  MetFree l y (headSpec ws rm) Pc (fun _ _ _ _ _ => True) (vx_Q Qc XC mc ms free)
def vx_Post (XC : String → State → State → Prop) (mc ms : Nat) (free : Addr → Prop) : Pt → Array Value → Addr → Pt → Prop := fun A a q B =>
  ∃ (g : JFrame) (mk : MethodId) (t : State) (L : List Loc) (E : String) (ce : Cell), B.U.heap = t.heap ∧ B.U.vm = t.vm ∧ XC E (A.U.calling g mk a) t ∧ t.heap[q]? = some ce ∧ ce.vm = .none ∧ A.U.vm.findClass E = some ce.cls ∧ B.locs = A.locs ++ L ∧ (∀ z ∈ L, free z.base) ∧ B.cells = A.cells + mc ∧ B.slots = A.slots + ms
def vx_Back (l : Launch) (R : Room) (p : Program) (e : Env) (below : List Frame) (s : State) (sargs : Array Value) (y : MethodName) (len W9 : Nat)
    (Pre : Pt → Array Value → Prop) (Post : Pt → Array Value → Option Value → Pt → Prop) (PostX : Pt → Array Value → Addr → Pt → Prop) : Prop :=
  ∀ (m : MethodId) (meth : Method) (c : Code) (A : Pt) (g : JFrame) (ig : Instr) (mk : MethodId) (a : Array Value),
    Stand p l e R s m sargs below meth c A.U A.locs A.cells A.slots → g.method = m → g.locals.size = c.maxLocals → decode c.code g.pc = .ok (ig, len) →
    2 * g.monitorRoom + (g.stack.map fun v => v.category).sum ≤ W9 → A.U.methodNamed? y = some mk → Pre A a →
    (∃ (v : Option Value) (B : Pt), Stand p l e R s m sargs below meth c B.U B.locs B.cells B.slots ∧ Post A a v B ∧
      Steps p.tables e below (doInvoke e (A.U.setTop g) [] mk a).1 (B.U.setTop { g with pc := g.pc + len, stack := v.toList ++ g.stack })) ∨
    (∃ (q : Addr) (B : Pt), Stand p l e R s m sargs below meth c B.U B.locs B.cells B.slots ∧ PostX A a q B ∧
      Steps p.tables e below (doInvoke e (A.U.setTop g) [] mk a).1 ((B.U.setTop g).pushFrame (.throwing q)))
section Payer
variable {l : Launch} {R : Room} {p : Program} {e : Env} {below : List Frame} {s : State} {sargs : Array Value} {y : MethodName} {len W9 : Nat}
theorem vx_back {ws : List Cond} {rm : Room} {Pc : Array Value → State → Prop} {Qc : Array Value → State → Outcome → State → Prop} {XC : String → State → State → Prop} {mc ms : Nat} {free : Addr → Prop} {bytes : ByteArray} {maxL : Nat} {ret : Option FieldType}
    (hM : vx_Met l y ws rm Pc Qc XC mc ms free) (hblind : FrameBlind Pc) (hrc : rm.cells = mc) (hrs : rm.slots = ms)
    (hframes : rm.frames + 1 ≤ R.frames) (hlocals : W9 + (maxL + 11) + rm.locals ≤ R.locals)
    (hws : ∀ w ∈ ws, ∀ a' U, s.WarmedH U.vm → w.before a' U = true) (hcode : Cond.code y bytes maxL ret ∈ ws) (hinit : ∀ a' U, s.WarmedH U.vm → (Cond.initialized y.cls).before a' U = true) :
    vx_Back l R p e below s sargs y len W9 (PreOf R mc ms Pc) (PostOf Qc mc ms free) (vx_Post XC mc ms free) := by
  intro m meth c A g ig mk a X hg hsize hdg hW hn hp
  have h1 : (headSpec ws rm).pre.before a A.U = true := atoms_intro fun w hw => hws w hw _ _ X.warmed
  have h2 : (Cond.code y bytes maxL ret).before a A.U = true := hws _ hcode _ _ X.warmed
  have h3 : (Cond.initialized y.cls).before a A.U = true := hinit _ _ X.warmed
  have h4 : A.cells + (headSpec ws rm).room.cells ≤ R.cells := by rw [show (headSpec ws rm).room.cells = mc from hrc]; exact hp.1
  have h5 : A.slots + (headSpec ws rm).room.slots ≤ R.slots := by rw [show (headSpec ws rm).room.slots = ms from hrs]; exact hp.2.1
  have hPc : Pc a (A.U.calling g mk a) := hblind _ _ _ _ hp.2.2
  obtain ⟨U, Ls, c0, s0⟩ := A
  dsimp only [Pt.U, Pt.locs, Pt.cells, Pt.slots] at h1 h2 h3 h4 h5 X hn hPc ⊢
  obtain ⟨methY, cY, hmY, hcY, -, hlY, -, -, -, -⟩ := Cond.code_spec hn h2
  obtain ⟨kY, hkY, -⟩ := className_of_methodNamed hn
  have hinitY : kY.init = .initialized := Cond.initialized_spec (findClass_of_methodNamed hn) hkY h3
  have h : At U g.method c below := by rw [hg]; exact X.here
  have hlocals9 : W9 + (maxL + 11) + (headSpec ws rm).room.locals ≤ R.locals := hlocals
  have happ : (headSpec ws rm).appliesLoose y e.platform (U.calling g mk a) = true :=
    Spec.appliesLoose_calling (g := g) h hdg hn hkY hinitY
      (X.room_calling (g := g) (R' := (headSpec ws rm).room) hsize hmY hcY hframes (by rw [hlY]; omega) h4 h5) h1
  obtain ⟨mid, hmid⟩ := h.above
  have hfr : (U.setTop g).frames = (.java g :: mid) ++ below := by rw [State.frames_setTop' g h.top, hmid]; rfl
  obtain ⟨o, s₂, hsteps, -, hend, hq⟩ := Steps.callFree hM p X.admits X.cas X.clock (acts := []) hfr happ hPc trivial
  have hq' : vx_Q Qc XC mc ms free a (U.calling g mk a) o s₂ := hq
  rw [State.frames_setTop' g h.top] at hend
  obtain ⟨g₀, hg0⟩ := Option.isSome_iff_exists.mp h.top
  obtain ⟨r, hr⟩ := State.topJava?_eq_some.mp hg0
  have hr' : (({ U with heap := s₂.heap, slotsUsed := s₂.slotsUsed } : State).setVm s₂.vm).frames = .java g₀ :: r := hr
  rcases hq' with ⟨hqc, L, hfe, hL⟩ | ⟨q, rfl, E, ce, L, hx, hce, hcv, hcl, hW₂, hsm, hL⟩
  · obtain ⟨⟨v, rfl⟩, hW₂, e2, q2, q3, q4, q5, q6⟩ := id hfe
    have e3 : s₂ = ({ (U.calling g mk a).setFrames s₂.frames with heap := s₂.heap, slotsUsed := s₂.slotsUsed } : State).setVm s₂.vm := by
      have : s₂ = ({ s₂ with vm := (U.calling g mk a).vm } : State).setVm s₂.vm := rfl
      rw [e2] at this
      exact this
    obtain ⟨c₂, i₂, len₂, hc₂, hd₂, hf₂⟩ := hend
    have hW' : U.WarmedH s₂.vm := hW₂
    have hcc : c₂ = c := by
      have h1 : s₂.code? g.method = U.code? g.method := by
        rw [State.code?_eq, State.code?_eq, hW'.alike.method?]
      exact Option.some.inj (hc₂.symm.trans (h1.trans h.code))
    subst hcc
    have hlen : len₂ = len := by rw [hdg] at hd₂; cases hd₂; rfl
    subst hlen
    have hs₂ : s₂ = (({ U with heap := s₂.heap, slotsUsed := s₂.slotsUsed } : State).setVm s₂.vm).setTop { g with pc := g.pc + len₂, stack := v.toList ++ g.stack } := by
      refine e3.trans ?_
      rw [hf₂, State.calling_eq h.top, State.setFrames_setFrames, State.setTop_of_frames _ hr', hr]
      rfl
    have hsame : U.sameButNew ({ U with heap := s₂.heap, slotsUsed := s₂.slotsUsed } : State) L mc ms := by
      refine ⟨?_, q2, q3, q4, q5, q6⟩
      obtain ⟨t, ht, -⟩ := State.frames_cons hr
      show ({ U with heap := s₂.heap, slotsUsed := s₂.slotsUsed } : State) = { U.setFrames U.frames with heap := s₂.heap, slotsUsed := s₂.slotsUsed }
      rw [State.setFrames_self ht]
    subst hg
    refine Or.inl ⟨v, ⟨(({ U with heap := s₂.heap, slotsUsed := s₂.slotsUsed } : State).setVm s₂.vm), Ls ++ L, c0 + mc, s0 + ms⟩,
      ⟨X.admits, X.cas, X.clock, X.frames, X.room, X.hears, X.method, X.code, (X.here.setHeapUsed s₂.heap s₂.slotsUsed).setVm hW'.alike, X.tail, State.WarmedH.trans X.warmed hW', X.limits, X.bytes, X.same.trans (hsame.setVm s.vm)⟩,
      ⟨g, mk, s₂, L, rfl, rfl, hqc, rfl, hL, rfl, rfl⟩, ?_⟩
    show Steps p.tables e below _ ((({ U with heap := s₂.heap, slotsUsed := s₂.slotsUsed } : State).setVm s₂.vm).setTop { g with pc := g.pc + len₂, stack := v.toList ++ g.stack })
    rw [← hs₂]
    exact hsteps
  · obtain ⟨e2, q2, q3, q4, q5, q6⟩ := id hsm
    have e3 : s₂ = ({ (U.calling g mk a).setFrames s₂.frames with heap := s₂.heap, slotsUsed := s₂.slotsUsed } : State).setVm s₂.vm := by
      have : s₂ = ({ s₂ with vm := (U.calling g mk a).vm } : State).setVm s₂.vm := rfl
      rw [e2] at this
      exact this
    have hf₂ : s₂.frames = .throwing q :: .java g :: U.frames.tail := hend
    have hW' : U.WarmedH s₂.vm := hW₂
    have hs₂ : s₂ = ((({ U with heap := s₂.heap, slotsUsed := s₂.slotsUsed } : State).setVm s₂.vm).setTop g).pushFrame (.throwing q) := by
      refine e3.trans ?_
      rw [hf₂, State.calling_eq h.top, State.setFrames_setFrames, State.pushFrame, State.frames_setTop _ hr', State.setTop_of_frames _ hr', State.setFrames_setFrames, hr]
      rfl
    have hsame : U.sameButNew ({ U with heap := s₂.heap, slotsUsed := s₂.slotsUsed } : State) L mc ms := by
      refine ⟨?_, q2, q3, q4, q5, q6⟩
      obtain ⟨t, ht, -⟩ := State.frames_cons hr
      show ({ U with heap := s₂.heap, slotsUsed := s₂.slotsUsed } : State) = { U.setFrames U.frames with heap := s₂.heap, slotsUsed := s₂.slotsUsed }
      rw [State.setFrames_self ht]
    subst hg
    refine Or.inr ⟨q, ⟨(({ U with heap := s₂.heap, slotsUsed := s₂.slotsUsed } : State).setVm s₂.vm), Ls ++ L, c0 + mc, s0 + ms⟩,
      ⟨X.admits, X.cas, X.clock, X.frames, X.room, X.hears, X.method, X.code, (X.here.setHeapUsed s₂.heap s₂.slotsUsed).setVm hW'.alike, X.tail, State.WarmedH.trans X.warmed hW', X.limits, X.bytes, X.same.trans (hsame.setVm s.vm)⟩,
      ⟨g, mk, s₂, L, E, ce, rfl, rfl, hx, hce, hcv, hcl, rfl, hL, rfl, rfl⟩, ?_⟩
    show Steps p.tables e below _ (((({ U with heap := s₂.heap, slotsUsed := s₂.slotsUsed } : State).setVm s₂.vm).setTop g).pushFrame (.throwing q))
    rw [← hs₂]
    exact hsteps
end Payer
section Calls
variable {p : Program} {l : Launch} {e : Env} {R : Room} {s : State} {m : MethodId} {args : Array Value} {below : List Frame} {meth : Method} {c : Code} {T : State} {locs : List Loc} {cells slots : Nat}
theorem vx_callV (X : Stand p l e R s m args below meth c T locs cells slots) (hexec : p.tables.exec = Jvm.exec) {own C : String} {index : Nat} {y : MethodName} {bytes : ByteArray} {maxL : Nat} {ret : Option FieldType}
    (hown : s.vm.findClass own = some m.cls) (hlink : (Cond.methodLink own index y).before args s = true) (hinst : (Cond.instanceMethod y).before args s = true) (hsel : (Cond.selects C y y).before args s = true)
    (hcode : (Cond.code y bytes maxL ret).before args s = true) (hy : y.cls ≠ "java/lang/invoke/MethodHandle" ∧ y.cls ≠ "java/lang/invoke/VarHandle")
    {W9 : Nat} {Pre : Pt → Array Value → Prop} {Post : Pt → Array Value → Option Value → Pt → Prop} {PostX : Pt → Array Value → Addr → Pt → Prop} (hK : vx_Back l R p e below s args y 3 W9 Pre Post PostX)
    {b : Addr} {cellB : Cell} (hcell : T.heap[b]? = some cellB) (hobj : cellB.vm.isStatics = false) (hcls : s.vm.findClass C = some cellB.cls)
    {g : JFrame} (hg : g.method = m) (hsize : g.locals.size = c.maxLocals) {argsL rest : List Value} (hlen : ∀ sig, parseMethodDescriptor y.desc = some sig → argsL.length = sig.parameters.length)
    (hstack : g.stack = argsL.reverse ++ .ref b :: rest) (hW : 2 * g.monitorRoom + (rest.map fun v => v.category).sum ≤ W9) (hdg : decode c.code g.pc = .ok (.invokevirtual index, 3))
    (hpre : ∀ vm₁, s.WarmedH vm₁ → Pre ⟨T.setVm vm₁, locs, cells, slots⟩ (Value.ref b :: argsL).toArray) :
    (∃ (v : Option Value) (vm₁ : Vm) (B : Pt), s.WarmedH vm₁ ∧ Stand p l e R s m args below meth c B.U B.locs B.cells B.slots ∧ Post ⟨T.setVm vm₁, locs, cells, slots⟩ (Value.ref b :: argsL).toArray v B ∧
      ∀ target, Steps p.tables e below (B.U.setTop { g with pc := g.pc + 3, stack := v.toList ++ rest }) target → Steps p.tables e below (T.setTop g) target) ∨
    (∃ (q : Addr) (vm₁ : Vm) (B : Pt), s.WarmedH vm₁ ∧ Stand p l e R s m args below meth c B.U B.locs B.cells B.slots ∧ PostX ⟨T.setVm vm₁, locs, cells, slots⟩ (Value.ref b :: argsL).toArray q B ∧
      Steps p.tables e below (T.setTop g) ((B.U.setTop { g with stack := rest }).pushFrame (.throwing q))) := by
  obtain ⟨mk, methM, hnamed, hmethM, hstM, habM⟩ := Cond.instanceMethod_spec hinst
  obtain ⟨methM', cM, hmethM', -, -, -, -, -, -, hsigM⟩ := Cond.code_spec hnamed hcode
  cases hmethM.symm.trans hmethM'
  obtain ⟨c2, r2, m2, q1, q2, q3, q4, kP, hkP, hkPi⟩ := Cond.selects_spec hsel
  cases hcls.symm.trans q1
  cases (State.methodFound?_of_named hnamed hy).symm.trans q2
  cases hnamed.symm.trans q3
  have hselP : selectMethod e.platform s.vm cellB.cls mk = .method mk := by rw [Launch.admits_selectMethod X.admits]; exact q4
  obtain ⟨vm₁, X₁, hstep₁⟩ := X.invokevirtual hexec hown hlink hnamed hmethM hstM hkP hkPi hy (a := b) (cell := cellB) hcell
    (fun z h => by rw [h] at hobj; cases hobj) hselP hmethM habM hkP hkPi (g := g) hg (argsL := argsL) (rest := rest) (hlen _ hsigM) hstack hdg
  rcases hK m meth c ⟨T.setVm vm₁, locs, cells, slots⟩ { g with stack := rest } (.invokevirtual index) mk (Value.ref b :: argsL).toArray X₁ hg hsize hdg hW (X₁.named hnamed) (hpre vm₁ X₁.warmed) with ⟨v, B, X', hpost, hsteps⟩ | ⟨q, B, X', hpost, hsteps⟩
  · exact Or.inl ⟨v, vm₁, B, X₁.warmed, X', hpost, fun target h => hstep₁ _ fun acts => by rw [doInvoke_state]; exact hsteps.trans h⟩
  · exact Or.inr ⟨q, vm₁, B, X₁.warmed, X', hpost, hstep₁ _ fun acts => by rw [doInvoke_state]; exact hsteps⟩
theorem vx_callS (X : Stand p l e R s m args below meth c T locs cells slots) (hexec : p.tables.exec = Jvm.exec) {own : String} {index : Nat} {y : MethodName} {bytes : ByteArray} {maxL : Nat} {ret : Option FieldType}
    (hown : s.vm.findClass own = some m.cls) (hlink : (Cond.methodLink own index y).before args s = true) (hstat : (Cond.static y).before args s = true) (hinit : (Cond.initialized y.cls).before args s = true)
    (hcode : (Cond.code y bytes maxL ret).before args s = true) (hy : y.cls ≠ "java/lang/invoke/MethodHandle" ∧ y.cls ≠ "java/lang/invoke/VarHandle")
    {W9 : Nat} {Pre : Pt → Array Value → Prop} {Post : Pt → Array Value → Option Value → Pt → Prop} {PostX : Pt → Array Value → Addr → Pt → Prop} (hK : vx_Back l R p e below s args y 3 W9 Pre Post PostX)
    {g : JFrame} (hg : g.method = m) (hsize : g.locals.size = c.maxLocals) {argsL rest : List Value} (hlen : ∀ sig, parseMethodDescriptor y.desc = some sig → argsL.length = sig.parameters.length)
    (hstack : g.stack = argsL.reverse ++ rest) (hW : 2 * g.monitorRoom + (rest.map fun v => v.category).sum ≤ W9) (hdg : decode c.code g.pc = .ok (.invokestatic index, 3))
    (hpre : ∀ vm₁, s.WarmedH vm₁ → Pre ⟨T.setVm vm₁, locs, cells, slots⟩ argsL.toArray) :
    (∃ (v : Option Value) (vm₁ : Vm) (B : Pt), s.WarmedH vm₁ ∧ Stand p l e R s m args below meth c B.U B.locs B.cells B.slots ∧ Post ⟨T.setVm vm₁, locs, cells, slots⟩ argsL.toArray v B ∧
      ∀ target, Steps p.tables e below (B.U.setTop { g with pc := g.pc + 3, stack := v.toList ++ rest }) target → Steps p.tables e below (T.setTop g) target) ∨
    (∃ (q : Addr) (vm₁ : Vm) (B : Pt), s.WarmedH vm₁ ∧ Stand p l e R s m args below meth c B.U B.locs B.cells B.slots ∧ PostX ⟨T.setVm vm₁, locs, cells, slots⟩ argsL.toArray q B ∧
      Steps p.tables e below (T.setTop g) ((B.U.setTop { g with stack := rest }).pushFrame (.throwing q))) := by
  obtain ⟨mk, hnamed⟩ := Cond.code_named hcode
  obtain ⟨methM, cM, hmethM, -, -, -, -, -, -, hsigM⟩ := Cond.code_spec hnamed hcode
  have hstatic : methM.isStatic = true := Cond.static_spec hnamed hmethM hstat
  obtain ⟨kP, hkP, -⟩ := className_of_methodNamed hnamed
  have hinitP : kP.init = .initialized := Cond.initialized_spec (findClass_of_methodNamed hnamed) hkP hinit
  obtain ⟨vm₁, X₁, hstep₁⟩ := X.invokestatic hexec hown hlink hnamed hmethM hstatic hkP hinitP hy (g := g) hg (argsL := argsL) (rest := rest) (hlen _ hsigM) hstack hdg
  rcases hK m meth c ⟨T.setVm vm₁, locs, cells, slots⟩ { g with stack := rest } (.invokestatic index) mk argsL.toArray X₁ hg hsize hdg hW (X₁.named hnamed) (hpre vm₁ X₁.warmed) with ⟨v, B, X', hpost, hsteps⟩ | ⟨q, B, X', hpost, hsteps⟩
  · exact Or.inl ⟨v, vm₁, B, X₁.warmed, X', hpost, fun target h => hstep₁ _ fun acts => by rw [doInvoke_state]; exact hsteps.trans h⟩
  · exact Or.inr ⟨q, vm₁, B, X₁.warmed, X', hpost, hstep₁ _ fun acts => by rw [doInvoke_state]; exact hsteps⟩
end Calls
theorem vx_cls {s : State} {T : State} {vm₁ : Vm} {E : String} {k : ClassId} (hW : s.WarmedH vm₁) (h : (T.setVm vm₁).vm.findClass E = some k) : s.vm.findClass E = some k := by
  have h1 : vm₁.findClass E = some k := h
  rw [hW.alike.findClass] at h1
  exact h1
/-- the method's frame g, with q thrown over it -/
def vx_W (p : Program) (l : Launch) (e : Env) (R : Room) (s : State) (m : MethodId) (args : Array Value) (below : List Frame) (meth : Method) (c : Code) (H : Heap) (locs : List Loc) (cells slots : Nat) (Q : State → Prop) (g : JFrame) (q : Addr) : Prop :=
  ∀ T : State, T.heap = H → Stand p l e R s m args below meth c T locs cells slots → ∃ t, Steps p.tables e below ((T.setTop g).pushFrame (.throwing q)) t ∧ Q t
def vx_Run (p : Program) (l : Launch) (e : Env) (R : Room) (s : State) (m : MethodId) (args : Array Value) (below : List Frame) (meth : Method) (c : Code) (H : Heap) (locs : List Loc) (cells slots mc ms : Nat) (g : JFrame) (rest : List Value) (Qa : State → Outcome → State → Prop) (XC : String → State → State → Prop) (free : Addr → Prop) : Prop :=
  ∀ T : State, T.heap = H → Stand p l e R s m args below meth c T locs cells slots →
    (∃ (v : Option Value) (st₀ t T' : State) (L : List Loc), st₀.heap = H ∧ Stand p l e R s m args below meth c T' (locs ++ L) (cells + mc) (slots + ms) ∧ (∀ q ∈ L, free q.base) ∧ T'.heap = t.heap ∧ T'.vm = t.vm ∧ Qa st₀ (.returned v) t ∧
      Goes p e below T g T' { g with pc := g.pc + 3, stack := v.toList ++ rest }) ∨
    (∃ (q : Addr) (st₀ t T' : State) (L : List Loc) (E : String) (ce : Cell), st₀.heap = H ∧ Stand p l e R s m args below meth c T' (locs ++ L) (cells + mc) (slots + ms) ∧ (∀ z ∈ L, free z.base) ∧ T'.heap = t.heap ∧ T'.vm = t.vm ∧ XC E st₀ t ∧ t.heap[q]? = some ce ∧ ce.vm = .none ∧ s.vm.findClass E = some ce.cls ∧
      Steps p.tables e below (T.setTop g) ((T'.setTop { g with stack := rest }).pushFrame (.throwing q)))
def vx_X {S : Type} (px : S → Prop) (B : String → S → State → Prop) (A : Nat → Prop) : String → State → State → Prop := fun E st t => ∃ u : S, px u ∧ B E u t ∧ va_F A st t
section Runs
variable {p : Program} {l : Launch} {e : Env} {R : Room} {s : State} {m : MethodId} {args : Array Value} {below : List Frame} {meth : Method} {c : Code} {H : Heap} {locs : List Loc} {cells slots : Nat}
variable {y : MethodName} {bytes cc : ByteArray} {maxL nL mc ms n index : Nat} {ret : Option FieldType} {ws : List Cond} {rm : Room} {Pc : Array Value → State → Prop} {Qc : Array Value → State → Outcome → State → Prop} {XC : String → State → State → Prop} {free : Addr → Prop} {Ts : List Cond} {own C : String} {b : Addr} {As rest : List Value} {g : JFrame}
theorem vx_callBack (cb : CallB R s args own index y bytes maxL ret ws rm mc ms n) (hM : vx_Met l y ws rm Pc Qc XC mc ms free) (hbl : FrameBlind Pc) : vx_Back l R p e below s args y 3 8 (PreOf R mc ms Pc) (PostOf Qc mc ms free) (vx_Post XC mc ms free) := by
  obtain ⟨hrc, hrs, hfr, hlo, hws, hcw, -, hini, -⟩ := cb
  exact vx_back (bytes := bytes) (maxL := maxL) (ret := ret) hM hbl hrc hrs hfr hlo hws hcw (fun a' U hW => word_at hW (Or.inl (by first | rfl | simp [Cond.onTables, Cond.keeps, Cond.steady])) hini)
theorem vx_runV (S : CallFix p m c cc nL s args Ts own) (hM : vx_Met l y ws rm Pc Qc XC mc ms free) (cw : CallW R s args own C index y bytes maxL ret ws rm mc ms n) (hp : PreV s H C b Pc As)
    (hg : g.method = m) (hn : As.length = n) (hsize : g.locals.size = nL) (hstack : g.stack = As.reverse ++ .ref b :: rest) (hW : 2 * g.monitorRoom + (rest.map fun v => v.category).sum ≤ 8) (hdg : decode cc g.pc = .ok (.invokevirtual index, 3)) (hf : cells + mc ≤ R.cells ∧ slots + ms ≤ R.slots) :
    vx_Run p l e R s m args below meth c H locs cells slots mc ms g rest (Qc (Value.ref b :: As).toArray) XC free := by
  have hK : vx_Back l R p e below s args y 3 8 (PreOf R mc ms Pc) (PostOf Qc mc ms free) (vx_Post XC mc ms free) := vx_callBack cw.1 hM hp.1
  obtain ⟨⟨-, -, -, -, -, -, hcode, -, hy, hlen, hl⟩, hin, hse⟩ := cw
  obtain ⟨hx, hb, hml, ho, -⟩ := S
  obtain ⟨-, ⟨cellB, hcB, hoB, hclB⟩, hPc⟩ := hp
  intro T hT X
  rcases vx_callV X hx (C := C) (bytes := bytes) (maxL := maxL) (ret := ret) ho hl hin hse hcode hy hK (by rw [hT]; exact hcB) hoB hclB hg (hsize.trans hml.symm) (argsL := As) (rest := rest) (fun sig h => hn.trans (hlen sig h)) hstack hW (by rw [hb]; exact hdg)
    (fun vm₁ hW₁ => ⟨hf.1, hf.2, hPc (T.setVm vm₁) hT hW₁⟩) with ⟨v, vm₁, ⟨U', l2, c2, s2⟩, hW₁, X', ⟨g', mk, t, L, e1, e2, hq, h1, hL, h2, h3⟩, st⟩ | ⟨q, vm₁, ⟨U', l2, c2, s2⟩, hW₁, X', ⟨g', mk, t, L, E, ce, e1, e2, hq, hce, hcv, hcl, h1, hL, h2, h3⟩, st⟩
  · dsimp only [Pt.U, Pt.locs, Pt.cells, Pt.slots] at X' e1 e2 h1 h2 h3 st
    subst h1; subst h2; subst h3
    exact Or.inl ⟨v, (T.setVm vm₁).calling g' mk (Value.ref b :: As).toArray, t, U', L, hT, X', hL, e1, e2, hq, st⟩
  · dsimp only [Pt.U, Pt.locs, Pt.cells, Pt.slots] at X' e1 e2 h1 h2 h3 st hcl
    subst h1; subst h2; subst h3
    exact Or.inr ⟨q, (T.setVm vm₁).calling g' mk (Value.ref b :: As).toArray, t, U', L, E, ce, hT, X', hL, e1, e2, hq, hce, hcv, vx_cls hW₁ hcl, st⟩
theorem vx_runS (S : CallFix p m c cc nL s args Ts own) (hM : vx_Met l y ws rm Pc Qc XC mc ms free) (cw : CallB R s args own index y bytes maxL ret ws rm mc ms n ∧ (Cond.static y).before args s = true) (hp : PreS s H Pc As)
    (hg : g.method = m) (hn : As.length = n) (hsize : g.locals.size = nL) (hstack : g.stack = As.reverse ++ rest) (hW : 2 * g.monitorRoom + (rest.map fun v => v.category).sum ≤ 8) (hdg : decode cc g.pc = .ok (.invokestatic index, 3)) (hf : cells + mc ≤ R.cells ∧ slots + ms ≤ R.slots) :
    vx_Run p l e R s m args below meth c H locs cells slots mc ms g rest (Qc As.toArray) XC free := by
  have hK : vx_Back l R p e below s args y 3 8 (PreOf R mc ms Pc) (PostOf Qc mc ms free) (vx_Post XC mc ms free) := vx_callBack cw.1 hM hp.1
  obtain ⟨⟨-, -, -, -, -, -, hcode, hini, hy, hlen, hl⟩, hstt⟩ := cw
  obtain ⟨hx, hb, hml, ho, -⟩ := S
  intro T hT X
  rcases vx_callS X hx (bytes := bytes) (maxL := maxL) (ret := ret) ho hl hstt hini hcode hy hK hg (hsize.trans hml.symm) (argsL := As) (rest := rest) (fun sig h => hn.trans (hlen sig h)) hstack hW (by rw [hb]; exact hdg)
    (fun vm₁ hW₁ => ⟨hf.1, hf.2, hp.2 (T.setVm vm₁) hT hW₁⟩) with ⟨v, vm₁, ⟨U', l2, c2, s2⟩, hW₁, X', ⟨g', mk, t, L, e1, e2, hq, h1, hL, h2, h3⟩, st⟩ | ⟨q, vm₁, ⟨U', l2, c2, s2⟩, hW₁, X', ⟨g', mk, t, L, E, ce, e1, e2, hq, hce, hcv, hcl, h1, hL, h2, h3⟩, st⟩
  · dsimp only [Pt.U, Pt.locs, Pt.cells, Pt.slots] at X' e1 e2 h1 h2 h3 st
    subst h1; subst h2; subst h3
    exact Or.inl ⟨v, (T.setVm vm₁).calling g' mk As.toArray, t, U', L, hT, X', hL, e1, e2, hq, st⟩
  · dsimp only [Pt.U, Pt.locs, Pt.cells, Pt.slots] at X' e1 e2 h1 h2 h3 st hcl
    subst h1; subst h2; subst h3
    exact Or.inr ⟨q, (T.setVm vm₁).calling g' mk As.toArray, t, U', L, E, ce, hT, X', hL, e1, e2, hq, hce, hcv, vx_cls hW₁ hcl, st⟩
end Runs
section Rows
variable {p : Program} {l : Launch} {e : Env} {R : Room} {s : State} {m : MethodId} {args : Array Value} {below : List Frame} {meth : Method} {c : Code} {H : Heap} {locs : List Loc} {cells slots : Nat} {Q : State → Prop}
variable {mc ms : Nat} {free : Addr → Prop} {A0 A1 : Nat → Prop} {H0 : Heap} {a : Array Value} {pc : Nat} {ls : Array Slot} {st0 rest : List Value}
theorem vx_keep {st₀ t T' : State} {L : List Loc} (h0 : st₀.heap = H) (e1 : T'.heap = t.heap) (hS : va_S A0 H0 H locs) (hA : ∀ q, q < H.size → A1 q → A0 q) (hf : ∀ q, free q → A0 q) (hL : ∀ q ∈ L, free q.base) (hF : va_F A1 st₀ t) :
    H.size ≤ T'.heap.size ∧ (∀ q : Nat, q < H.size → ¬ A1 q → T'.heap[q]? = H[q]?) ∧ va_S A0 H0 T'.heap (locs ++ L) := by
  obtain ⟨hz, hk⟩ := hF
  rw [h0] at hz hk
  exact ⟨by rw [e1]; exact hz, fun q h1 h2 => by rw [e1]; exact hk q h1 h2,
    ⟨Nat.le_trans hS.1 (by rw [e1]; exact hz), fun q h1 h2 => by rw [e1, hk q (Nat.lt_of_lt_of_le h1 hS.1) (fun z => h2 (hA q (Nat.lt_of_lt_of_le h1 hS.1) z))]; exact hS.2.1 q h1 h2, fun q hq => by
      rcases List.mem_append.mp hq with h | h
      · exact hS.2.2 q h
      · exact hf _ (hL q h)⟩⟩
theorem vx_calli {S SX : Type} {post : Int32 → S → Prop} {px : SX → Prop} {B : S → State → Prop} {BX : String → SX → State → Prop} {AX : Nat → Prop} (hr : vx_Run p l e R s m args below meth c H locs cells slots mc ms (F0 m pc ls st0) rest (va_Qi post B A1 a) (vx_X px BX AX) free) (hS : va_S A0 H0 H locs) (hA : ∀ q, q < H.size → A1 q → A0 q) (hf : ∀ q, free q → A0 q) (hAX : ∀ q, q < H.size → AX q → A0 q)
    (kx : ∀ (E : String) (ce : Cell) (q9 : Addr) (u : SX) (t : State) (H1 : Heap) (locs1 : List Loc), t.heap = H1 → s.vm.Alike t.vm → px u → BX E u t → H.size ≤ H1.size → (∀ q : Nat, q < H.size → ¬ AX q → H1[q]? = H[q]?) → va_S A0 H0 H1 locs1 → H1[q9]? = some ce → ce.vm = .none → s.vm.findClass E = some ce.cls → vx_W p l e R s m args below meth c H1 locs1 (cells + mc) (slots + ms) Q (F0 m pc ls rest) q9)
    (kk : ∀ (r : Int32) (u : S) (t : State) (H1 : Heap) (locs1 : List Loc), t.heap = H1 → s.vm.Alike t.vm → post r u → B u t → H.size ≤ H1.size → (∀ q : Nat, q < H.size → ¬ A1 q → H1[q]? = H[q]?) → va_S A0 H0 H1 locs1 → W p l e R s m args below meth c H1 locs1 (cells + mc) (slots + ms) Q (F0 m (pc + 3) ls (.int r :: rest))) : W p l e R s m args below meth c H locs cells slots Q (F0 m pc ls st0) := by
  intro T hT X
  rcases hr T hT X with ⟨v, st₀, t, T', L, h0, X', hL, e1, e2, ⟨⟨r, u, hv, hp, hb⟩, hF⟩, st⟩ | ⟨q, st₀, t, T', L, E, ce, h0, X', hL, e1, e2, ⟨u, hp, hb, hF⟩, hce, hcv, hcl, st⟩
  · cases hv
    obtain ⟨k1, k2, k3⟩ := vx_keep h0 e1 hS hA hf hL hF
    obtain ⟨t2, a1, b1⟩ := kk r u t T'.heap (locs ++ L) e1.symm (by rw [← e2]; exact X'.warmed.alike) hp hb k1 k2 k3 T' rfl X'
    exact ⟨t2, st t2 a1, b1⟩
  · obtain ⟨k1, k2, k3⟩ := vx_keep h0 e1 hS hAX hf hL hF
    obtain ⟨t2, a1, b1⟩ := kx E ce q u t T'.heap (locs ++ L) e1.symm (by rw [← e2]; exact X'.warmed.alike) hp hb k1 k2 k3 (by rw [e1]; exact hce) hcv hcl T' rfl X'
    exact ⟨t2, st.trans a1, b1⟩
theorem vx_calll {S SX : Type} {post : Int64 → S → Prop} {px : SX → Prop} {B : S → State → Prop} {BX : String → SX → State → Prop} {AX : Nat → Prop} (hr : vx_Run p l e R s m args below meth c H locs cells slots mc ms (F0 m pc ls st0) rest (va_Ql post B A1 a) (vx_X px BX AX) free) (hS : va_S A0 H0 H locs) (hA : ∀ q, q < H.size → A1 q → A0 q) (hf : ∀ q, free q → A0 q) (hAX : ∀ q, q < H.size → AX q → A0 q)
    (kx : ∀ (E : String) (ce : Cell) (q9 : Addr) (u : SX) (t : State) (H1 : Heap) (locs1 : List Loc), t.heap = H1 → s.vm.Alike t.vm → px u → BX E u t → H.size ≤ H1.size → (∀ q : Nat, q < H.size → ¬ AX q → H1[q]? = H[q]?) → va_S A0 H0 H1 locs1 → H1[q9]? = some ce → ce.vm = .none → s.vm.findClass E = some ce.cls → vx_W p l e R s m args below meth c H1 locs1 (cells + mc) (slots + ms) Q (F0 m pc ls rest) q9)
    (kk : ∀ (r : Int64) (u : S) (t : State) (H1 : Heap) (locs1 : List Loc), t.heap = H1 → s.vm.Alike t.vm → post r u → B u t → H.size ≤ H1.size → (∀ q : Nat, q < H.size → ¬ A1 q → H1[q]? = H[q]?) → va_S A0 H0 H1 locs1 → W p l e R s m args below meth c H1 locs1 (cells + mc) (slots + ms) Q (F0 m (pc + 3) ls (.long r :: rest))) : W p l e R s m args below meth c H locs cells slots Q (F0 m pc ls st0) := by
  intro T hT X
  rcases hr T hT X with ⟨v, st₀, t, T', L, h0, X', hL, e1, e2, ⟨⟨r, u, hv, hp, hb⟩, hF⟩, st⟩ | ⟨q, st₀, t, T', L, E, ce, h0, X', hL, e1, e2, ⟨u, hp, hb, hF⟩, hce, hcv, hcl, st⟩
  · cases hv
    obtain ⟨k1, k2, k3⟩ := vx_keep h0 e1 hS hA hf hL hF
    obtain ⟨t2, a1, b1⟩ := kk r u t T'.heap (locs ++ L) e1.symm (by rw [← e2]; exact X'.warmed.alike) hp hb k1 k2 k3 T' rfl X'
    exact ⟨t2, st t2 a1, b1⟩
  · obtain ⟨k1, k2, k3⟩ := vx_keep h0 e1 hS hAX hf hL hF
    obtain ⟨t2, a1, b1⟩ := kx E ce q u t T'.heap (locs ++ L) e1.symm (by rw [← e2]; exact X'.warmed.alike) hp hb k1 k2 k3 (by rw [e1]; exact hce) hcv hcl T' rfl X'
    exact ⟨t2, st.trans a1, b1⟩
theorem vx_callf {S SX : Type} {post : UInt32 → S → Prop} {px : SX → Prop} {B : S → State → Prop} {BX : String → SX → State → Prop} {AX : Nat → Prop} (hr : vx_Run p l e R s m args below meth c H locs cells slots mc ms (F0 m pc ls st0) rest (va_Qf post B A1 a) (vx_X px BX AX) free) (hS : va_S A0 H0 H locs) (hA : ∀ q, q < H.size → A1 q → A0 q) (hf : ∀ q, free q → A0 q) (hAX : ∀ q, q < H.size → AX q → A0 q)
    (kx : ∀ (E : String) (ce : Cell) (q9 : Addr) (u : SX) (t : State) (H1 : Heap) (locs1 : List Loc), t.heap = H1 → s.vm.Alike t.vm → px u → BX E u t → H.size ≤ H1.size → (∀ q : Nat, q < H.size → ¬ AX q → H1[q]? = H[q]?) → va_S A0 H0 H1 locs1 → H1[q9]? = some ce → ce.vm = .none → s.vm.findClass E = some ce.cls → vx_W p l e R s m args below meth c H1 locs1 (cells + mc) (slots + ms) Q (F0 m pc ls rest) q9)
    (kk : ∀ (r : UInt32) (u : S) (t : State) (H1 : Heap) (locs1 : List Loc), t.heap = H1 → s.vm.Alike t.vm → post r u → B u t → H.size ≤ H1.size → (∀ q : Nat, q < H.size → ¬ A1 q → H1[q]? = H[q]?) → va_S A0 H0 H1 locs1 → W p l e R s m args below meth c H1 locs1 (cells + mc) (slots + ms) Q (F0 m (pc + 3) ls (.float r :: rest))) : W p l e R s m args below meth c H locs cells slots Q (F0 m pc ls st0) := by
  intro T hT X
  rcases hr T hT X with ⟨v, st₀, t, T', L, h0, X', hL, e1, e2, ⟨⟨r, u, hv, hp, hb⟩, hF⟩, st⟩ | ⟨q, st₀, t, T', L, E, ce, h0, X', hL, e1, e2, ⟨u, hp, hb, hF⟩, hce, hcv, hcl, st⟩
  · cases hv
    obtain ⟨k1, k2, k3⟩ := vx_keep h0 e1 hS hA hf hL hF
    obtain ⟨t2, a1, b1⟩ := kk r u t T'.heap (locs ++ L) e1.symm (by rw [← e2]; exact X'.warmed.alike) hp hb k1 k2 k3 T' rfl X'
    exact ⟨t2, st t2 a1, b1⟩
  · obtain ⟨k1, k2, k3⟩ := vx_keep h0 e1 hS hAX hf hL hF
    obtain ⟨t2, a1, b1⟩ := kx E ce q u t T'.heap (locs ++ L) e1.symm (by rw [← e2]; exact X'.warmed.alike) hp hb k1 k2 k3 (by rw [e1]; exact hce) hcv hcl T' rfl X'
    exact ⟨t2, st.trans a1, b1⟩
theorem vx_calld {S SX : Type} {post : UInt64 → S → Prop} {px : SX → Prop} {B : S → State → Prop} {BX : String → SX → State → Prop} {AX : Nat → Prop} (hr : vx_Run p l e R s m args below meth c H locs cells slots mc ms (F0 m pc ls st0) rest (va_Qd post B A1 a) (vx_X px BX AX) free) (hS : va_S A0 H0 H locs) (hA : ∀ q, q < H.size → A1 q → A0 q) (hf : ∀ q, free q → A0 q) (hAX : ∀ q, q < H.size → AX q → A0 q)
    (kx : ∀ (E : String) (ce : Cell) (q9 : Addr) (u : SX) (t : State) (H1 : Heap) (locs1 : List Loc), t.heap = H1 → s.vm.Alike t.vm → px u → BX E u t → H.size ≤ H1.size → (∀ q : Nat, q < H.size → ¬ AX q → H1[q]? = H[q]?) → va_S A0 H0 H1 locs1 → H1[q9]? = some ce → ce.vm = .none → s.vm.findClass E = some ce.cls → vx_W p l e R s m args below meth c H1 locs1 (cells + mc) (slots + ms) Q (F0 m pc ls rest) q9)
    (kk : ∀ (r : UInt64) (u : S) (t : State) (H1 : Heap) (locs1 : List Loc), t.heap = H1 → s.vm.Alike t.vm → post r u → B u t → H.size ≤ H1.size → (∀ q : Nat, q < H.size → ¬ A1 q → H1[q]? = H[q]?) → va_S A0 H0 H1 locs1 → W p l e R s m args below meth c H1 locs1 (cells + mc) (slots + ms) Q (F0 m (pc + 3) ls (.double r :: rest))) : W p l e R s m args below meth c H locs cells slots Q (F0 m pc ls st0) := by
  intro T hT X
  rcases hr T hT X with ⟨v, st₀, t, T', L, h0, X', hL, e1, e2, ⟨⟨r, u, hv, hp, hb⟩, hF⟩, st⟩ | ⟨q, st₀, t, T', L, E, ce, h0, X', hL, e1, e2, ⟨u, hp, hb, hF⟩, hce, hcv, hcl, st⟩
  · cases hv
    obtain ⟨k1, k2, k3⟩ := vx_keep h0 e1 hS hA hf hL hF
    obtain ⟨t2, a1, b1⟩ := kk r u t T'.heap (locs ++ L) e1.symm (by rw [← e2]; exact X'.warmed.alike) hp hb k1 k2 k3 T' rfl X'
    exact ⟨t2, st t2 a1, b1⟩
  · obtain ⟨k1, k2, k3⟩ := vx_keep h0 e1 hS hAX hf hL hF
    obtain ⟨t2, a1, b1⟩ := kx E ce q u t T'.heap (locs ++ L) e1.symm (by rw [← e2]; exact X'.warmed.alike) hp hb k1 k2 k3 (by rw [e1]; exact hce) hcv hcl T' rfl X'
    exact ⟨t2, st.trans a1, b1⟩
theorem vx_callv {S SX : Type} {post : S → Prop} {px : SX → Prop} {B : S → State → Prop} {BX : String → SX → State → Prop} {AX : Nat → Prop} (hr : vx_Run p l e R s m args below meth c H locs cells slots mc ms (F0 m pc ls st0) rest (va_Qv post B A1 a) (vx_X px BX AX) free) (hS : va_S A0 H0 H locs) (hA : ∀ q, q < H.size → A1 q → A0 q) (hf : ∀ q, free q → A0 q) (hAX : ∀ q, q < H.size → AX q → A0 q)
    (kx : ∀ (E : String) (ce : Cell) (q9 : Addr) (u : SX) (t : State) (H1 : Heap) (locs1 : List Loc), t.heap = H1 → s.vm.Alike t.vm → px u → BX E u t → H.size ≤ H1.size → (∀ q : Nat, q < H.size → ¬ AX q → H1[q]? = H[q]?) → va_S A0 H0 H1 locs1 → H1[q9]? = some ce → ce.vm = .none → s.vm.findClass E = some ce.cls → vx_W p l e R s m args below meth c H1 locs1 (cells + mc) (slots + ms) Q (F0 m pc ls rest) q9)
    (kk : ∀ (u : S) (t : State) (H1 : Heap) (locs1 : List Loc), t.heap = H1 → s.vm.Alike t.vm → post u → B u t → H.size ≤ H1.size → (∀ q : Nat, q < H.size → ¬ A1 q → H1[q]? = H[q]?) → va_S A0 H0 H1 locs1 → W p l e R s m args below meth c H1 locs1 (cells + mc) (slots + ms) Q (F0 m (pc + 3) ls (rest))) : W p l e R s m args below meth c H locs cells slots Q (F0 m pc ls st0) := by
  intro T hT X
  rcases hr T hT X with ⟨v, st₀, t, T', L, h0, X', hL, e1, e2, ⟨⟨u, hv, hp, hb⟩, hF⟩, st⟩ | ⟨q, st₀, t, T', L, E, ce, h0, X', hL, e1, e2, ⟨u, hp, hb, hF⟩, hce, hcv, hcl, st⟩
  · cases hv
    obtain ⟨k1, k2, k3⟩ := vx_keep h0 e1 hS hA hf hL hF
    obtain ⟨t2, a1, b1⟩ := kk u t T'.heap (locs ++ L) e1.symm (by rw [← e2]; exact X'.warmed.alike) hp hb k1 k2 k3 T' rfl X'
    exact ⟨t2, st t2 a1, b1⟩
  · obtain ⟨k1, k2, k3⟩ := vx_keep h0 e1 hS hAX hf hL hF
    obtain ⟨t2, a1, b1⟩ := kx E ce q u t T'.heap (locs ++ L) e1.symm (by rw [← e2]; exact X'.warmed.alike) hp hb k1 k2 k3 (by rw [e1]; exact hce) hcv hcl T' rfl X'
    exact ⟨t2, st.trans a1, b1⟩
/-- caught by the row x of this method's table; the rows ahead don't take it -/
theorem vx_catch {own name : String} {E : String} {ce : Cell} {q : Addr} (hown : s.vm.findClass own = some m.cls) (pre : List ExceptionTableEntry) (x : ExceptionTableEntry) (suf : List ExceptionTableEntry) (hsplit : c.exceptionTable.toList = pre ++ x :: suf)
    (hpass : ∀ z ∈ pre, covers z pc = false ∨ (z.catchType ≠ 0 ∧ ∃ nm : String, (Cond.classLink own z.catchType nm).before args s = true ∧ va_Nc E nm s)) (hx : covers x pc = true) (h0 : x.catchType ≠ 0)
    (hlink : (Cond.classLink own x.catchType name).before args s = true) (hcast : (Cond.castable E name).before args s = true) (hcell : H[q]? = some ce) (hv : ce.vm = .none) (hcl : s.vm.findClass E = some ce.cls)
    (kk : W p l e R s m args below meth c H locs cells slots Q (F0 m x.handlerPc ls [.ref q])) : vx_W p l e R s m args below meth c H locs cells slots Q (F0 m pc ls rest) q := by
  intro T hT X
  have hpl : e.platform.magicAccessors = ({} : Platform).magicAccessors := by rw [X.admits.platform]
  obtain ⟨c3, c4, hc3, hc4, hasg⟩ := Cond.castable_spec hcast
  cases Option.some.inj (hc3.symm.trans hcl)
  obtain ⟨c5, hc5, hcl5⟩ := Cond.classLink_spec hown hlink e.platform hpl
  cases Option.some.inj (hc4.symm.trans hc5)
  obtain ⟨vm', X', st⟩ := X.thenCaughtThrough q (g := F0 m pc ls rest) rfl (Steps.refl _) (by rw [hT]; exact hcell) (by rw [hv]; rfl) (by obtain ⟨k9, h9, -⟩ := Vm.findClass_spec hcl; exact ⟨k9, h9⟩) pre x suf hsplit
    (fun z hz => by
      rcases hpass z hz with h | ⟨hz0, nm, hl1, hn1⟩
      · exact Or.inl h
      · obtain ⟨c6, hc6, hcl6⟩ := Cond.classLink_spec hown hl1 e.platform hpl
        obtain ⟨a8, b8, h1, h2, h3⟩ := hn1
        cases Option.some.inj (h1.symm.trans hcl)
        cases Option.some.inj (h2.symm.trans hc6)
        exact Or.inr ⟨hz0, _, hcl6, h3⟩) hx (Or.inr ⟨h0, c4, hcl5, hasg⟩)
  obtain ⟨t, a1, b1⟩ := kk (T.setVm vm') hT X'
  exact ⟨t, st.trans a1, b1⟩
end Rows
section Ends
variable {p : Program} {l : Launch} {e : Env} {R : Room} {s : State} {m : MethodId} {args : Array Value} {below : List Frame} {meth : Method} {c : Code} {H : Heap} {locs : List Loc} {cells slots : Nat} {Q : State → Prop}
variable {mc ms : Nat} {free : Addr → Prop} {A0 A1 : Nat → Prop} {H0 : Heap} {a : Array Value} {ls : Array Slot} {st0 rest : List Value}
variable {Qc : Array Value → State → Outcome → State → Prop} {XC : String → State → State → Prop}
/-- what a body that may throw owes at its end -/
def vx_MQ (below : List Frame) (Qc : Array Value → State → Outcome → State → Prop) (XC : String → State → State → Prop) (a : Array Value) (s : State) (mc ms : Nat) (free : Addr → Prop) : State → Prop := fun t =>
  ∃ o, t.status = .running ∧ Ended t below o ∧ vx_Q Qc XC mc ms free a s o t
theorem vx_ret {g : JFrame} {mc ms : Nat} (k : W p l e R s m args below meth c H locs cells slots (MQ below Qc args s mc ms free) g) : W p l e R s m args below meth c H locs cells slots (vx_MQ below Qc XC args s mc ms free) g := by
  intro T hT X
  obtain ⟨t, a1, o, b1, b2, b3, b4⟩ := k T hT X
  exact ⟨t, a1, o, b1, b2, Or.inl ⟨b3, b4⟩⟩
/-- not caught here: it goes on to the caller -/
theorem vx_widen {g : JFrame} {q : Addr} {k n : Nat} (h1 : cells ≤ k) (h2 : slots ≤ n) (kk : vx_W p l e R s m args below meth c H locs k n Q g q) : vx_W p l e R s m args below meth c H locs cells slots Q g q := fun T hT X => kk T hT (stand_widen X h1 h2)
theorem vx_out {pc : Nat} {E : String} {ce : Cell} {q : Addr} {mc ms : Nat} (hout : ∀ x ∈ c.exceptionTable.toList, covers x pc = false) (hlocks : meth.locks = false) (hcell : H[q]? = some ce) (hv : ce.vm = .none) (hcl : s.vm.findClass E = some ce.cls)
    (hx : ∀ t : State, t.heap = H → s.vm.Alike t.vm → XC E s t) (hf : ∀ z ∈ locs, free z.base) (hc : cells ≤ mc) (hs : slots ≤ ms) :
    vx_W p l e R s m args below meth c H locs cells slots (vx_MQ below Qc XC args s mc ms free) (F0 m pc ls rest) q := by
  intro T hT X
  obtain ⟨st1, hrun, hend, hW, hsm⟩ := X.leaveThrown q (g := F0 m pc ls rest) rfl rfl rfl hout hlocks
  have hcell9 : (T.setFrames (.throwing q :: below)).heap[q]? = some ce := by
    show T.heap[q]? = some ce
    rw [hT]; exact hcell
  exact ⟨_, st1, .threw q, hrun, hend, Or.inr ⟨q, rfl, E, ce, locs, hx _ hT hW.alike, hcell9, hv, hcl, hW, hsm.mono hc hs, hf⟩⟩
theorem vx_frame {U : State} {k n : Nat} (h : s.sameButNew ({ U with vm := s.vm } : State) locs k n) : s.heap.size ≤ U.heap.size ∧ ∀ q : Nat, q < s.heap.size → (∀ z ∈ locs, z.base ≠ q) → U.heap[q]? = s.heap[q]? := by
  obtain ⟨-, h2, -, -, -, h6⟩ := h
  refine ⟨h2, fun q hq hz => ?_⟩
  obtain ⟨c9, e1, e2, e3, e4⟩ := h6 q _ (Array.getElem?_eq_getElem hq)
  have hs : c9.slots = (s.heap[q]).slots := Array.ext_getElem? fun i => e4 i fun hm => hz _ hm rfl
  have h9 : c9 = s.heap[q] := by
    rw [hs] at e2
    exact e2
  have e5 : U.heap[q]? = some c9 := e1
  rw [e5, h9, Array.getElem?_eq_getElem hq]
/-- the words of a throw but the four that speak of the heap -/
def vx_no (w : Cond) : Bool := decide (w ≠ .isRef (.static Bundle.tN "UNASSIGNED_STACK" Bundle.steD)) && decide (w ≠ .isRef (.static Bundle.tN "SUPPRESSED_SENTINEL" Bundle.listD)) && decide (w ≠ .laysStatic Bundle.tN "UNASSIGNED_STACK" Bundle.steD) && decide (w ≠ .laysStatic Bundle.tN "SUPPRESSED_SENTINEL" Bundle.listD)
def vx_at0 (own : String) (ic : Nat) (X : String) (names : List String) : List Cond := (Bundle.ownAtoms0 own ic X names).filter vx_no
def vx_atS (own : String) (ic : Nat) (X : String) (names : List String) : List Cond := (Bundle.ownAtoms own ic X names).filter vx_no
/-- a word that the tables alone decide, or a good one -/
def vx_ot (w : Cond) : Bool := w.onTables || goodWord w
theorem vx_ot_at {args a' : Array Value} {s U : State} {w : Cond} (hW : s.WarmedH U.vm) (hvm : s.vm = U.vm) (hg : vx_ot w = true) (h : w.before args s = true) : w.before a' U = true := by
  simp only [vx_ot, Bool.or_eq_true] at hg
  rcases hg with hg | hg
  · exact va_tabs hg hvm h
  · exact word_at hW (good_of_word hg) h
/-- a list's words: the good ones out of the method's own list, the others by premises of their own -/
theorem vx_hat {args : Array Value} {s : State} {L B : List Cond} (h1 : ∀ w ∈ L.filter goodWord, w.before args s = true) (h2 : ∀ w ∈ L.filter (fun w => !goodWord w), w ∈ B) (h3 : ∀ w ∈ B, w.before args s = true) : ∀ w ∈ L, w.before args s = true := by
  intro w hw
  by_cases g : goodWord w = true
  · exact h1 w (List.mem_filter.mpr ⟨hw, g⟩)
  · refine h3 w (h2 w (List.mem_filter.mpr ⟨hw, ?_⟩))
    show (!goodWord w) = true
    cases hgw : goodWord w
    · rfl
    · exact absurd hgw g
theorem vx_c {args : Array Value} {s : State} {w : Cond} {B : List Cond} (h : w.before args s = true) (t : ∀ w ∈ B, w.before args s = true) : ∀ w' ∈ w :: B, w'.before args s = true := fun w' h' => (List.mem_cons.mp h').elim (fun e => by rw [e]; exact h) (t w')
theorem vx_n {args : Array Value} {s : State} : ∀ w ∈ ([] : List Cond), w.before args s = true := fun _ h => nomatch h
theorem vx_own {args : Array Value} {s : State} {L : List Cond} (h1 : ∀ w ∈ L.filter vx_no, w.before args s = true)
    (hU : (Cond.isRef (.static Bundle.tN "UNASSIGNED_STACK" Bundle.steD)).before args s = true) (hN : (Cond.isRef (.static Bundle.tN "SUPPRESSED_SENTINEL" Bundle.listD)).before args s = true)
    (lU : (Cond.laysStatic Bundle.tN "UNASSIGNED_STACK" Bundle.steD).before args s = true) (lN : (Cond.laysStatic Bundle.tN "SUPPRESSED_SENTINEL" Bundle.listD).before args s = true) : ∀ w ∈ L, w.before args s = true := by
  intro w hw
  by_cases e1 : w = .isRef (.static Bundle.tN "UNASSIGNED_STACK" Bundle.steD)
  · rw [e1]; exact hU
  · by_cases e2 : w = .isRef (.static Bundle.tN "SUPPRESSED_SENTINEL" Bundle.listD)
    · rw [e2]; exact hN
    · by_cases e3 : w = .laysStatic Bundle.tN "UNASSIGNED_STACK" Bundle.steD
      · rw [e3]; exact lU
      · by_cases e4 : w = .laysStatic Bundle.tN "SUPPRESSED_SENTINEL" Bundle.listD
        · rw [e4]; exact lN
        · exact h1 w (List.mem_filter.mpr ⟨hw, by unfold vx_no; rw [decide_eq_true e1, decide_eq_true e2, decide_eq_true e3, decide_eq_true e4]; rfl⟩)
/-- where a static field lies, its class's statics cell in H -/
def vx_L (C n d : String) (A : Nat → Prop) (U : State) (H : Heap) : Prop := ∃ (c : ClassId) (k : Class) (i : Nat) (f : Field) (a : Nat) (cell : Cell), U.vm.findClass C = some c ∧ U.fieldFound? C n d = some (c, k, i, f) ∧ f.isStatic = true ∧ k.statics = some a ∧ H[a]? = some cell ∧ cell.vm.isStatics = true ∧ cell.cls = c ∧ f.slot < cell.slots.size ∧ k.staticTypes[f.slot]? = some f.type ∧ ¬ A a
theorem vx_L.moved {C n d : String} {A : Nat → Prop} {u U : State} {H : Heap} (hvm : u.vm.Alike U.vm) (h : vx_L C n d A u H) : vx_L C n d A U H := by
  obtain ⟨c, k, i, f, a, cell, h1, h2, h3, h4, h5, h6, h7, h8, h9, h10⟩ := h
  obtain ⟨k', hi', he⟩ := State.fieldFound?_setVm hvm h2
  exact ⟨c, k', i, f, a, cell, by rw [hvm.findClass]; exact h1, hi', h3, by rw [he]; exact h4, h5, h6, h7, h8, by rw [he]; exact h9, h10⟩
theorem vx_L.kept {C n d : String} {A : Nat → Prop} {U : State} {H H1 : Heap} (h : vx_L C n d A U H) (hq : ∀ a : Nat, a < H.size → ¬ A a → H1[a]? = H[a]?) : vx_L C n d A U H1 := by
  obtain ⟨c, k, i, f, a, cell, h1, h2, h3, h4, h5, h6, h7, h8, h9, h10⟩ := h
  exact ⟨c, k, i, f, a, cell, h1, h2, h3, h4, by rw [hq a (Array.getElem?_eq_some_iff.mp h5).1 h10]; exact h5, h6, h7, h8, h9, h10⟩
theorem vx_L.narrow {C n d : String} {A B : Nat → Prop} {U : State} {H : Heap} (h : vx_L C n d A U H) (hAB : ∀ q, B q → A q) : vx_L C n d B U H := by
  obtain ⟨c, k, i, f, a, cell, h1, h2, h3, h4, h5, h6, h7, h8, h9, h10⟩ := h
  exact ⟨c, k, i, f, a, cell, h1, h2, h3, h4, h5, h6, h7, h8, h9, fun z => h10 (hAB _ z)⟩
theorem vx_L.word {C n d : String} {A : Nat → Prop} {s : State} {args : Array Value} (h : vx_L C n d A s s.heap) : (Cond.laysStatic C n d).before args s = true := by
  obtain ⟨c, k, i, f, a, cell, h1, h2, h3, h4, h5, h6, h7, h8, h9, -⟩ := h
  show (Cond.laysStatic C n d).holds args s none s [] = true
  exact Cond.laysStatic_of h1 h2 h3 h4 h5 h6 h7 h8 h9
/-- .. and what it holds: null or some reference -/
def vx_Zq (C n d : String) (A : Nat → Prop) (U : State) (H : Heap) : Prop := va_Zq C n d A U H ∧ vx_L C n d A U H
theorem vx_Zq.moved {C n d : String} {A : Nat → Prop} {u U : State} {H : Heap} (hvm : u.vm.Alike U.vm) (h : vx_Zq C n d A u H) : vx_Zq C n d A U H := ⟨va_Zq.moved hvm h.1, vx_L.moved hvm h.2⟩
theorem vx_Zq.kept {C n d : String} {A : Nat → Prop} {U : State} {H H1 : Heap} (h : vx_Zq C n d A U H) (hq : ∀ a : Nat, a < H.size → ¬ A a → H1[a]? = H[a]?) : vx_Zq C n d A U H1 := ⟨va_Zq.kept h.1 hq, vx_L.kept h.2 hq⟩
theorem vx_Zq.narrow {C n d : String} {A B : Nat → Prop} {U : State} {H : Heap} (h : vx_Zq C n d A U H) (hAB : ∀ q, B q → A q) : vx_Zq C n d B U H := ⟨va_Zq.narrow h.1 hAB, vx_L.narrow h.2 hAB⟩
theorem vx_Zqof {args : Array Value} {s : State} {C n d : String} {A : Nat → Prop} (hl : (Cond.laysStatic C n d).before args s = true) (hini : (Cond.initialized C).before args s = true) (h : (Cond.isRef (.static C n d)).before args s = true) (hA : ∀ a : Nat, a < s.heap.size → ¬ A a) : vx_Zq C n d A s s.heap := by
  refine ⟨va_Zqof hl hini h hA, ?_⟩
  obtain ⟨c, k, i, f, a, cell, h1, h2, h3, h4, h5, h6, h7, h8, h9⟩ := Cond.laysStatic_spec hl
  exact ⟨c, k, i, f, a, cell, h1, h2, h3, h4, h5, h6, h7, h8, h9, hA a (Array.getElem?_eq_some_iff.mp h5).1⟩
theorem vx_isRef {C n d : String} {v : Value} {A : Nat → Prop} {s : State} {args : Array Value} (h : va_Z C n d v A s s.heap) (hv : v.isRef = true) : (Cond.isRef (.static C n d)).before args s = true := by
  obtain ⟨cf, kf, fi, f, a, cell, h1, h2, h3, h4, h5, h6, h7, -⟩ := h
  have he : (Term.static C n d).eval args s none [] s = some v := by
    simp [Term.eval, State.fieldNamed?, h1, h2, h4, h5, h6, h7]
  simp only [Cond.before, Cond.holds, Cond.value, he]
  cases v <;> simp_all [Value.isRef]
theorem vx_isRefq {C n d : String} {A : Nat → Prop} {s : State} {args : Array Value} (h : va_Zq C n d A s s.heap) : (Cond.isRef (.static C n d)).before args s = true := by
  rcases h with h | ⟨t, h⟩
  · exact vx_isRef h rfl
  · exact vx_isRef h rfl
/-- the same frame, seen from here: as if the method were called anew in this heap -/
theorem vx_rebase {T : State} (X : Stand p l e R s m args below meth c T locs cells slots) {R' : Room} (hf : R'.frames ≤ R.frames) (hl : R'.locals ≤ R.locals) (hc : cells + R'.cells ≤ R.cells) (hs : slots + R'.slots ≤ R.slots) :
    Stand p l e R' ((T.setVm s.vm).setFrames (.invoking m args :: below)) m args below meth c T [] 0 0 := by
  have htop : (T.setVm s.vm).topJava?.isSome := X.here.top
  have hF : ((T.setVm s.vm).setFrames (.invoking m args :: below)).frames = .invoking m args :: below := State.frames_setFrames _ (State.cur_lt_of_top htop)
  obtain ⟨g₀, hg0⟩ := Option.isSome_iff_exists.mp htop
  obtain ⟨r, hr⟩ := State.topJava?_eq_some.mp hg0
  have hl9 : e.platform.stackLimits (T.setVm s.vm).me = e.platform.stackLimits s.me := X.limits
  have hb9 : (T.setVm s.vm).me.stackBytes = s.me.stackBytes := X.bytes
  refine ⟨X.admits, X.cas, X.clock, hF, ?_, X.hears, X.method, X.code, X.here, X.tail, X.warmed, ?_, ?_, ?_⟩
  · have h := X.room
    have hU : ((T.setVm s.vm).setFrames (.invoking m args :: below)).localsInUse = s.localsInUse := by
      rw [State.localsInUse_invoking hF (meth := meth) (c := c) X.method X.code, State.localsInUse_invoking X.frames X.method X.code]
    simp only [State.hasRoom, Bool.and_eq_true, decide_eq_true_eq] at h ⊢
    obtain ⟨⟨⟨⟨h1, h2, h3, h4, h5, h6⟩, h7⟩, h8⟩, h9⟩ := h
    rw [X.frames, List.length_cons] at h2 h3
    have q1 := X.heapSize
    have q2 := X.used
    simp only [hF, hU, List.length_cons, State.stackLimits_setFrames, State.stackBytes_setFrames, hl9, hb9]
    refine ⟨⟨⟨⟨by omega, by omega, by omega, by omega, by omega, h6⟩, ?_⟩, ?_⟩, X.book⟩
    · show T.heap.size + R'.cells ≤ e.platform.maxCells
      omega
    · show T.slotsUsed + R'.slots ≤ e.platform.maxSlots
      omega
  · rw [State.stackLimits_setFrames]; rfl
  · rw [State.stackBytes_setFrames]; rfl
  · refine ⟨?_, Nat.le_refl _, Nat.le_refl _, ?_, ?_, fun a c9 h9 => ⟨c9, h9, rfl, rfl, fun _ _ => rfl⟩⟩
    · obtain ⟨t, ht, -⟩ := State.frames_cons hr
      show T.setVm s.vm = { ((T.setVm s.vm).setFrames (.invoking m args :: below)).setFrames (T.setVm s.vm).frames with heap := T.heap, slotsUsed := T.slotsUsed }
      rw [State.setFrames_setFrames, State.setFrames_self ht]
      rfl
    · show T.slotsUsed = T.slotsUsed + ((T.heap.toList.drop T.heap.size).map (·.slots.size)).sum
      rw [List.drop_eq_nil_of_le (Nat.le_of_eq Array.length_toList)]
      rfl
    · show ((T.heap.toList.drop T.heap.size).map (·.slots.size)).sum ≤ 0
      rw [List.drop_eq_nil_of_le (Nat.le_of_eq Array.length_toList)]
      exact Nat.le_refl _
/-- 'throw new E()': new; dup; invokespecial; athrow -/
theorem vx_throw0 {cc : ByteArray} {pc : Nat} (hexec : p.tables.exec = Jvm.exec) (hb : c.code = cc) (hl : l.stackTraces = false) {own cls : String} {names : List String} {ik ic mc ms : Nat} {A : Nat → Prop}
    (hown : s.vm.findClass own = some m.cls) (hcls : Bundle.fit cls = true) (hnames : ∀ n ∈ names, Bundle.fit n = true)
    (hk : (Cond.classLink own ik cls).before args s = true) (hini : (Cond.initialized cls).before args s = true) (hat : ∀ w ∈ vx_at0 own ic cls names, w.before args s = true)
    (hgood : ∀ w ∈ Cond.classLink own ik cls :: Cond.initialized cls :: vx_at0 own ic cls names, vx_ot w = true)
    (hU : vx_Zq Bundle.tN "UNASSIGNED_STACK" Bundle.steD A s s.heap) (hN : vx_Zq Bundle.tN "SUPPRESSED_SENTINEL" Bundle.listD A s s.heap) (hS : va_S A s.heap H locs) (hsize : ls.size = c.maxLocals)
    (d0 : decode cc pc = .ok (.new ik, 3)) (d3 : decode cc (pc + 3) = .ok (.dup, 1)) (d4 : decode cc (pc + 4) = .ok (.invokespecial ic, 3)) (d7 : decode cc (pc + 7) = .ok (.athrow, 1))
    (hout : ∀ x ∈ c.exceptionTable.toList, covers x (pc + 7) = false)
    (hRframes : names.length + 3 < R.frames) (hRlocals : (rest.map fun v => v.category).sum + (13 * (names.length + 1) + 42) ≤ R.locals) (hRcells : cells + 1 ≤ R.cells) (hRslots : slots + 6 ≤ R.slots) (hlocks : meth.locks = false)
    (hx : ∀ t : State, s.vm.Alike t.vm → H.size ≤ t.heap.size → (∀ q : Nat, q < H.size → t.heap[q]? = H[q]?) → XC cls s t)
    (hf : ∀ z ∈ locs, free z.base) (hc : cells + 1 ≤ mc) (hs : slots + 6 ≤ ms) :
    W p l e R s m args below meth c H locs cells slots (vx_MQ below Qc XC args s mc ms free) (F0 m pc ls rest) := by
  intro T hT X
  have htr : e.platform.stackTraces = false := (show e.platform.stackTraces = l.stackTraces by rw [X.admits.platform]).trans hl
  have Y := vx_rebase X (R' := { frames := R.frames, locals := R.locals, cells := 1, slots := 6 }) (Nat.le_refl _) (Nat.le_refl _) hRcells hRslots
  obtain ⟨s', hA⟩ : ∃ z, z = (T.setVm s.vm).setFrames (.invoking m args :: below) := ⟨_, rfl⟩
  rw [← hA] at Y
  have hvm : s'.vm = s.vm := by rw [hA]; rfl
  have hhp : s'.heap = H := by rw [hA]; exact hT
  have hW0 : s.WarmedH s'.vm := by rw [hvm]; exact State.WarmedH.refl s
  have hat' : ∀ w ∈ vx_at0 own ic cls names, w.before args s' = true := fun w hw => vx_ot_at hW0 hvm.symm (hgood w (List.mem_cons_of_mem _ (List.mem_cons_of_mem _ hw))) (hat w hw)
  have hk' : (Cond.classLink own ik cls).before args s' = true := vx_ot_at hW0 hvm.symm (hgood _ List.mem_cons_self) hk
  have hini' : (Cond.initialized cls).before args s' = true := vx_ot_at hW0 hvm.symm (hgood _ (List.mem_cons_of_mem _ List.mem_cons_self)) hini
  have hU' : vx_Zq Bundle.tN "UNASSIGNED_STACK" Bundle.steD A s' s'.heap := by rw [hhp]; exact vx_Zq.moved hW0.alike (hU.kept hS.2.1)
  have hN' : vx_Zq Bundle.tN "SUPPRESSED_SENTINEL" Bundle.listD A s' s'.heap := by rw [hhp]; exact vx_Zq.moved hW0.alike (hN.kept hS.2.1)
  have h : ∀ w ∈ Bundle.ownAtoms0 own ic cls names, w.before args s' = true := vx_own hat' (vx_isRefq hU'.1) (vx_isRefq hN'.1) hU'.2.word hN'.2.word
  have hown' : s'.vm.findClass own = some m.cls := by rw [hvm]; exact hown
  have hins : (Cond.instantiable cls 6).before args s' = true := h _ (by simp [Bundle.ownAtoms0])
  obtain ⟨vm₁, cX, kX, hfX, hkX, -, -, X₁, st1⟩ := Y.newCold hexec (own := own) (C := cls) (index := ik) (n := 6) hown' hk' hins hini'
    (g := F0 m pc ls rest) rfl (by rw [hb]; exact d0) (Nat.le_refl _) (Nat.le_refl _)
  generalize hT1 : (T.setVm vm₁).pushCell { cls := cX, slots := kX.instanceTypes.map defaultValue, vm := .none } = T1 at X₁ st1
  have hcat : (Value.ref T.heap.size).category = 1 := rfl
  have hcellA : T1.heap[T.heap.size]? = some (freshCell cX kX) := by rw [← hT1]; exact State.heap_pushCell_size _ _
  have d3' : decode c.code (pc + 3) = .ok (.dup, 1) := by rw [hb]; exact d3
  obtain ⟨U, hsteps, hrun, hend, hW, hsame, ce, hce, hO⟩ := X₁.ctorThrow0 hexec htr (own := own) (cls := cls) (names := names) (ic := ic) hown' hcls hnames h (fun x hx => nomatch hx) hfX hkX hcellA (by rw [hhp, hT]; exact Nat.le_refl _)
    (g := { method := m, pc := pc + 4, locals := ls, stack := .ref T.heap.size :: .ref T.heap.size :: rest, locked := none }) rfl hsize rfl rfl (rest := rest) rfl
    (by rw [hb]; exact d4) (by rw [hb]; exact d7) hout hRframes (by simp only [List.map_cons, List.sum_cons, hcat]; omega) hlocks
  obtain ⟨f1, f2⟩ := vx_frame hsame
  rw [hhp] at f1 f2
  have hWs : s.WarmedH U.vm := State.WarmedH.trans hW0 hW
  have hcl : s.vm.findClass cls = some ce.cls := by
    have h9 := hO.cls
    rw [hvm] at h9
    exact h9
  have hall : s.sameButNew ({ U with vm := s.vm } : State) locs mc ms := by
    subst hA
    obtain ⟨e1, e2⟩ := hsame
    rw [State.setFrames_setFrames] at e1
    have h2 : (T.setVm s.vm).sameButNew ({ U with vm := s.vm } : State) [] (0 + 1) (0 + 6) := ⟨e1, e2⟩
    have h3 := X.same.trans h2
    rw [List.append_nil] at h3
    exact h3.mono hc hs
  refine ⟨U, ?_, .threw T.heap.size, hrun, hend, Or.inr ⟨T.heap.size, rfl, cls, ce, locs, hx U hWs.alike f1 (fun q hq => f2 q hq (fun z hz => nomatch hz)), hce, hO.vm, hcl, hWs, hall, hf⟩⟩
  refine st1 _ ?_
  show Steps p.tables e below (T1.setTop { method := m, pc := pc + 3, locals := ls, stack := .ref T.heap.size :: rest, locked := none }) _
  jvm_step X₁.here [X₁.here.top, hexec, d3', Value.category]
  exact hsteps
/-- 'throw new E("text")': new; dup; ldc; invokespecial; athrow -/
theorem vx_throwS {cc : ByteArray} {pc : Nat} (hexec : p.tables.exec = Jvm.exec) (hb : c.code = cc) (hl : l.stackTraces = false) {own cls text : String} {names : List String} {ik is ic mc ms sa : Nat} {A : Nat → Prop}
    (hown : s.vm.findClass own = some m.cls) (hcls : Bundle.fit cls = true) (hnames : ∀ n ∈ names, Bundle.fit n = true)
    (hk : (Cond.classLink own ik cls).before args s = true) (hini : (Cond.initialized cls).before args s = true) (hstr : vk_R own is text sa s) (hat : ∀ w ∈ vx_atS own ic cls names, w.before args s = true)
    (hgood : ∀ w ∈ Cond.classLink own ik cls :: Cond.initialized cls :: vx_atS own ic cls names, vx_ot w = true)
    (hU : vx_Zq Bundle.tN "UNASSIGNED_STACK" Bundle.steD A s s.heap) (hN : vx_Zq Bundle.tN "SUPPRESSED_SENTINEL" Bundle.listD A s s.heap) (hS : va_S A s.heap H locs) (hsize : ls.size = c.maxLocals)
    (d0 : decode cc pc = .ok (.new ik, 3)) (d3 : decode cc (pc + 3) = .ok (.dup, 1)) (d4 : decode cc (pc + 4) = .ok (.ldc is, 2)) (d6 : decode cc (pc + 6) = .ok (.invokespecial ic, 3)) (d9 : decode cc (pc + 9) = .ok (.athrow, 1))
    (hout : ∀ x ∈ c.exceptionTable.toList, covers x (pc + 9) = false)
    (hRframes : names.length + 3 < R.frames) (hRlocals : (rest.map fun v => v.category).sum + (13 * (names.length + 1) + 43) ≤ R.locals) (hRcells : cells + 1 ≤ R.cells) (hRslots : slots + 6 ≤ R.slots) (hlocks : meth.locks = false)
    (hx : ∀ t : State, s.vm.Alike t.vm → H.size ≤ t.heap.size → (∀ q : Nat, q < H.size → t.heap[q]? = H[q]?) → XC cls s t)
    (hf : ∀ z ∈ locs, free z.base) (hc : cells + 1 ≤ mc) (hs : slots + 6 ≤ ms) :
    W p l e R s m args below meth c H locs cells slots (vx_MQ below Qc XC args s mc ms free) (F0 m pc ls rest) := by
  intro T hT X
  have htr : e.platform.stackTraces = false := (show e.platform.stackTraces = l.stackTraces by rw [X.admits.platform]).trans hl
  have Y := vx_rebase X (R' := { frames := R.frames, locals := R.locals, cells := 1, slots := 6 }) (Nat.le_refl _) (Nat.le_refl _) hRcells hRslots
  obtain ⟨s', hA⟩ : ∃ z, z = (T.setVm s.vm).setFrames (.invoking m args :: below) := ⟨_, rfl⟩
  rw [← hA] at Y
  have hvm : s'.vm = s.vm := by rw [hA]; rfl
  have hhp : s'.heap = H := by rw [hA]; exact hT
  have hW0 : s.WarmedH s'.vm := by rw [hvm]; exact State.WarmedH.refl s
  have hat' : ∀ w ∈ vx_atS own ic cls names, w.before args s' = true := fun w hw => vx_ot_at hW0 hvm.symm (hgood w (List.mem_cons_of_mem _ (List.mem_cons_of_mem _ hw))) (hat w hw)
  have hk' : (Cond.classLink own ik cls).before args s' = true := vx_ot_at hW0 hvm.symm (hgood _ List.mem_cons_self) hk
  have hini' : (Cond.initialized cls).before args s' = true := vx_ot_at hW0 hvm.symm (hgood _ (List.mem_cons_of_mem _ List.mem_cons_self)) hini
  have hU' : vx_Zq Bundle.tN "UNASSIGNED_STACK" Bundle.steD A s' s'.heap := by rw [hhp]; exact vx_Zq.moved hW0.alike (hU.kept hS.2.1)
  have hN' : vx_Zq Bundle.tN "SUPPRESSED_SENTINEL" Bundle.listD A s' s'.heap := by rw [hhp]; exact vx_Zq.moved hW0.alike (hN.kept hS.2.1)
  have h : ∀ w ∈ Bundle.ownAtoms own ic cls names, w.before args s' = true := vx_own hat' (vx_isRefq hU'.1) (vx_isRefq hN'.1) hU'.2.word hN'.2.word
  have hown' : s'.vm.findClass own = some m.cls := by rw [hvm]; exact hown
  have hins : (Cond.instantiable cls 6).before args s' = true := h _ (by simp [Bundle.ownAtoms])
  obtain ⟨vm₁, cX, kX, hfX, hkX, -, -, X₁, st1⟩ := Y.newCold hexec (own := own) (C := cls) (index := ik) (n := 6) hown' hk' hins hini'
    (g := F0 m pc ls rest) rfl (by rw [hb]; exact d0) (Nat.le_refl _) (Nat.le_refl _)
  generalize hT1 : (T.setVm vm₁).pushCell { cls := cX, slots := kX.instanceTypes.map defaultValue, vm := .none } = T1 at X₁ st1
  have hcat : (Value.ref T.heap.size).category = 1 := rfl
  have hcellA : T1.heap[T.heap.size]? = some (freshCell cX kX) := by rw [← hT1]; exact State.heap_pushCell_size _ _
  have d3' : decode c.code (pc + 3) = .ok (.dup, 1) := by rw [hb]; exact d3
  have d4' : decode c.code (pc + 4) = .ok (.ldc is, 2) := by rw [hb]; exact d4
  have hstr' : vk_R own is text sa s' := vk_R.warm hW0 hstr
  obtain ⟨U, hsteps, hrun, hend, hW, hsame, ce, hce, hO⟩ := X₁.ctorThrowS hexec htr (own := own) (cls := cls) (names := names) (ic := ic) hown' hcls hnames h (fun x hx => nomatch hx) hfX hkX hcellA (by rw [hhp, hT]; exact Nat.le_refl _) (msg := .ref sa) rfl
    (g := { method := m, pc := pc + 6, locals := ls, stack := .ref sa :: .ref T.heap.size :: .ref T.heap.size :: rest, locked := none }) rfl hsize rfl rfl (rest := rest) rfl
    (by rw [hb]; exact d6) (by rw [hb]; exact d9) hout hRframes (by simp only [List.map_cons, List.sum_cons, hcat]; omega) hlocks
  obtain ⟨f1, f2⟩ := vx_frame hsame
  rw [hhp] at f1 f2
  have hWs : s.WarmedH U.vm := State.WarmedH.trans hW0 hW
  have hcl : s.vm.findClass cls = some ce.cls := by
    have h9 := hO.cls
    rw [hvm] at h9
    exact h9
  have hall : s.sameButNew ({ U with vm := s.vm } : State) locs mc ms := by
    subst hA
    obtain ⟨e1, e2⟩ := hsame
    rw [State.setFrames_setFrames] at e1
    have h2 : (T.setVm s.vm).sameButNew ({ U with vm := s.vm } : State) [] (0 + 1) (0 + 6) := ⟨e1, e2⟩
    have h3 := X.same.trans h2
    rw [List.append_nil] at h3
    exact h3.mono hc hs
  refine ⟨U, ?_, .threw T.heap.size, hrun, hend, Or.inr ⟨T.heap.size, rfl, cls, ce, locs, hx U hWs.alike f1 (fun q hq => f2 q hq (fun z hz => nomatch hz)), hce, hO.vm, hcl, hWs, hall, hf⟩⟩
  refine st1 _ ?_
  show Steps p.tables e below (T1.setTop { method := m, pc := pc + 3, locals := ls, stack := .ref T.heap.size :: rest, locked := none }) _
  jvm_step X₁.here [X₁.here.top, hexec, d3', Value.category]
  exact X₁.ldcString hexec (own := own) (text := text) (index := is) (a := sa) hown' hstr'.1 hstr'.2
    (g := { method := m, pc := pc + 4, locals := ls, stack := .ref T.heap.size :: .ref T.heap.size :: rest, locked := none }) rfl d4' _ hsteps
/-- 'throw new E("text")', the text by a wide index -/
theorem vx_throwSW {cc : ByteArray} {pc : Nat} (hexec : p.tables.exec = Jvm.exec) (hb : c.code = cc) (hl : l.stackTraces = false) {own cls text : String} {names : List String} {ik is ic mc ms sa : Nat} {A : Nat → Prop}
    (hown : s.vm.findClass own = some m.cls) (hcls : Bundle.fit cls = true) (hnames : ∀ n ∈ names, Bundle.fit n = true)
    (hk : (Cond.classLink own ik cls).before args s = true) (hini : (Cond.initialized cls).before args s = true) (hstr : vk_R own is text sa s) (hat : ∀ w ∈ vx_atS own ic cls names, w.before args s = true)
    (hgood : ∀ w ∈ Cond.classLink own ik cls :: Cond.initialized cls :: vx_atS own ic cls names, vx_ot w = true)
    (hU : vx_Zq Bundle.tN "UNASSIGNED_STACK" Bundle.steD A s s.heap) (hN : vx_Zq Bundle.tN "SUPPRESSED_SENTINEL" Bundle.listD A s s.heap) (hS : va_S A s.heap H locs) (hsize : ls.size = c.maxLocals)
    (d0 : decode cc pc = .ok (.new ik, 3)) (d3 : decode cc (pc + 3) = .ok (.dup, 1)) (d4 : decode cc (pc + 4) = .ok (.ldc_w is, 3)) (d7 : decode cc (pc + 7) = .ok (.invokespecial ic, 3)) (d10 : decode cc (pc + 10) = .ok (.athrow, 1))
    (hout : ∀ x ∈ c.exceptionTable.toList, covers x (pc + 10) = false)
    (hRframes : names.length + 3 < R.frames) (hRlocals : (rest.map fun v => v.category).sum + (13 * (names.length + 1) + 43) ≤ R.locals) (hRcells : cells + 1 ≤ R.cells) (hRslots : slots + 6 ≤ R.slots) (hlocks : meth.locks = false)
    (hx : ∀ t : State, s.vm.Alike t.vm → H.size ≤ t.heap.size → (∀ q : Nat, q < H.size → t.heap[q]? = H[q]?) → XC cls s t)
    (hf : ∀ z ∈ locs, free z.base) (hc : cells + 1 ≤ mc) (hs : slots + 6 ≤ ms) :
    W p l e R s m args below meth c H locs cells slots (vx_MQ below Qc XC args s mc ms free) (F0 m pc ls rest) := by
  intro T hT X
  have htr : e.platform.stackTraces = false := (show e.platform.stackTraces = l.stackTraces by rw [X.admits.platform]).trans hl
  have Y := vx_rebase X (R' := { frames := R.frames, locals := R.locals, cells := 1, slots := 6 }) (Nat.le_refl _) (Nat.le_refl _) hRcells hRslots
  obtain ⟨s', hA⟩ : ∃ z, z = (T.setVm s.vm).setFrames (.invoking m args :: below) := ⟨_, rfl⟩
  rw [← hA] at Y
  have hvm : s'.vm = s.vm := by rw [hA]; rfl
  have hhp : s'.heap = H := by rw [hA]; exact hT
  have hW0 : s.WarmedH s'.vm := by rw [hvm]; exact State.WarmedH.refl s
  have hat' : ∀ w ∈ vx_atS own ic cls names, w.before args s' = true := fun w hw => vx_ot_at hW0 hvm.symm (hgood w (List.mem_cons_of_mem _ (List.mem_cons_of_mem _ hw))) (hat w hw)
  have hk' : (Cond.classLink own ik cls).before args s' = true := vx_ot_at hW0 hvm.symm (hgood _ List.mem_cons_self) hk
  have hini' : (Cond.initialized cls).before args s' = true := vx_ot_at hW0 hvm.symm (hgood _ (List.mem_cons_of_mem _ List.mem_cons_self)) hini
  have hU' : vx_Zq Bundle.tN "UNASSIGNED_STACK" Bundle.steD A s' s'.heap := by rw [hhp]; exact vx_Zq.moved hW0.alike (hU.kept hS.2.1)
  have hN' : vx_Zq Bundle.tN "SUPPRESSED_SENTINEL" Bundle.listD A s' s'.heap := by rw [hhp]; exact vx_Zq.moved hW0.alike (hN.kept hS.2.1)
  have h : ∀ w ∈ Bundle.ownAtoms own ic cls names, w.before args s' = true := vx_own hat' (vx_isRefq hU'.1) (vx_isRefq hN'.1) hU'.2.word hN'.2.word
  have hown' : s'.vm.findClass own = some m.cls := by rw [hvm]; exact hown
  have hins : (Cond.instantiable cls 6).before args s' = true := h _ (by simp [Bundle.ownAtoms])
  obtain ⟨vm₁, cX, kX, hfX, hkX, -, -, X₁, st1⟩ := Y.newCold hexec (own := own) (C := cls) (index := ik) (n := 6) hown' hk' hins hini'
    (g := F0 m pc ls rest) rfl (by rw [hb]; exact d0) (Nat.le_refl _) (Nat.le_refl _)
  generalize hT1 : (T.setVm vm₁).pushCell { cls := cX, slots := kX.instanceTypes.map defaultValue, vm := .none } = T1 at X₁ st1
  have hcat : (Value.ref T.heap.size).category = 1 := rfl
  have hcellA : T1.heap[T.heap.size]? = some (freshCell cX kX) := by rw [← hT1]; exact State.heap_pushCell_size _ _
  have d3' : decode c.code (pc + 3) = .ok (.dup, 1) := by rw [hb]; exact d3
  have d4' : decode c.code (pc + 4) = .ok (.ldc_w is, 3) := by rw [hb]; exact d4
  have hstr' : vk_R own is text sa s' := vk_R.warm hW0 hstr
  obtain ⟨U, hsteps, hrun, hend, hW, hsame, ce, hce, hO⟩ := X₁.ctorThrowS hexec htr (own := own) (cls := cls) (names := names) (ic := ic) hown' hcls hnames h (fun x hx => nomatch hx) hfX hkX hcellA (by rw [hhp, hT]; exact Nat.le_refl _) (msg := .ref sa) rfl
    (g := { method := m, pc := pc + 7, locals := ls, stack := .ref sa :: .ref T.heap.size :: .ref T.heap.size :: rest, locked := none }) rfl hsize rfl rfl (rest := rest) rfl
    (by rw [hb]; exact d7) (by rw [hb]; exact d10) hout hRframes (by simp only [List.map_cons, List.sum_cons, hcat]; omega) hlocks
  obtain ⟨f1, f2⟩ := vx_frame hsame
  rw [hhp] at f1 f2
  have hWs : s.WarmedH U.vm := State.WarmedH.trans hW0 hW
  have hcl : s.vm.findClass cls = some ce.cls := by
    have h9 := hO.cls
    rw [hvm] at h9
    exact h9
  have hall : s.sameButNew ({ U with vm := s.vm } : State) locs mc ms := by
    subst hA
    obtain ⟨e1, e2⟩ := hsame
    rw [State.setFrames_setFrames] at e1
    have h2 : (T.setVm s.vm).sameButNew ({ U with vm := s.vm } : State) [] (0 + 1) (0 + 6) := ⟨e1, e2⟩
    have h3 := X.same.trans h2
    rw [List.append_nil] at h3
    exact h3.mono hc hs
  refine ⟨U, ?_, .threw T.heap.size, hrun, hend, Or.inr ⟨T.heap.size, rfl, cls, ce, locs, hx U hWs.alike f1 (fun q hq => f2 q hq (fun z hz => nomatch hz)), hce, hO.vm, hcl, hWs, hall, hf⟩⟩
  refine st1 _ ?_
  show Steps p.tables e below (T1.setTop { method := m, pc := pc + 3, locals := ls, stack := .ref T.heap.size :: rest, locked := none }) _
  jvm_step X₁.here [X₁.here.top, hexec, d3', Value.category]
  exact X₁.ldcStringW hexec (own := own) (text := text) (index := is) (a := sa) hown' hstr'.1 hstr'.2
    (g := { method := m, pc := pc + 4, locals := ls, stack := .ref T.heap.size :: .ref T.heap.size :: rest, locked := none }) rfl d4' _ hsteps
end Ends
section Bodies
variable {l : Launch}
theorem vx_ofW {y : MethodName} {ws ws' : List Cond} {rm : Room} {Pc : Array Value → State → Prop} {Qc : Array Value → State → Outcome → State → Prop} {XC : String → State → State → Prop} {mc ms : Nat} {free : Addr → Prop} {cc : ByteArray} {maxL : Nat} {ret : Option FieldType}
    (hy : plainName y.cls = true) (hw : ws = Cond.code y cc maxL ret :: ws')
    (body : ∀ p e s m args below meth c s₁, BodyLoose p l y (headSpec ws rm) cc maxL ret e s m args below meth c s₁ → c.maxLocals = maxL → (∀ x ∈ c.exceptionTable.toList, False) → Pc args s →
      W p l e (headSpec ws rm).room s m args below meth c s.heap [] 0 0 (vx_MQ below Qc XC args s mc ms free) (entryFrame m args maxL)) : vx_Met l y ws rm Pc Qc XC mc ms free := by
  refine MetFree.of_bodyS (code := cc) (maxLocals := maxL) (ret := ret) hy ?_ ?_
  · intro args s m h hn
    obtain ⟨meth, c, h1, h2, h3, h4, h5, h6, -, -⟩ := Cond.code_spec hn (atoms_spec (ws := ws) h _ (by rw [hw]; exact List.mem_cons_self))
    exact ⟨meth, c, h1, h2, h3, h4, h5, h6⟩
  · intro p e s m args below meth c s₁ B hml hP _
    have hh0 : s₁.heap = s.heap := by rw [B.state]; rfl
    have ht : ∀ x ∈ c.exceptionTable.toList, False := by
      obtain ⟨meth9, c9, h1, h2, -, -, -, -, h7, -⟩ := Cond.code_spec B.named (atoms_spec (ws := ws) B.pre _ (by rw [hw]; exact List.mem_cons_self))
      cases Option.some.inj (h1.symm.trans B.method)
      cases Option.some.inj (h2.symm.trans (Stand.of_body B).code)
      intro x hx
      rw [Array.isEmpty_iff.mp h7] at hx
      cases hx
    obtain ⟨t, a1, o, b1, b2, b3⟩ := body p e s m args below meth c s₁ B hml ht hP s₁ hh0 (Stand.of_body B)
    exact ⟨t, o, a1, b1, b2, b3⟩
/-- the table of a body with handlers -/
theorem vx_table {p : Program} {x y : MethodName} {S : Spec} {cc bytes : ByteArray} {maxL maxL' : Nat} {ret ret' : Option FieldType} {e : Env} {s s₁ : State} {m : MethodId} {args : Array Value} {below : List Frame} {meth : Method} {c : Code} {hh : List (Nat × Nat × Nat × Nat)}
    (B : BodyLoose p l y S cc maxL ret e s m args below meth c s₁) (h : (Cond.codeWith y bytes maxL' ret' hh).before args s = true) : c.exceptionTable.toList = tableOf hh := by
  obtain ⟨m9, meth9, c9, hn9, h1, h2, -, -, h6, -⟩ := Cond.codeWith_spec h
  cases Option.some.inj (hn9.symm.trans B.named)
  cases Option.some.inj (h1.symm.trans B.method)
  cases Option.some.inj (h2.symm.trans (Stand.of_body B).code)
  rw [← h6, table_eq]
end Bodies
end VXA
/-! ===== END ===== -/
/-! ===== BEGIN a static call of a method with an exception table ===== -/
section VXS
variable {p : Program} {l : Launch} {e : Env} {R : Room} {s : State} {m : MethodId} {args : Array Value} {below : List Frame} {meth : Method} {c : Code} {T : State} {H : Heap} {locs : List Loc} {cells slots : Nat}
abbrev vx_CSW (R : Room) (s : State) (args : Array Value) (own : String) (index : Nat) (y : MethodName) (bytes : ByteArray) (maxL : Nat) (ret : Option FieldType) (hh : List (Nat × Nat × Nat × Nat)) (ws : List Cond) (rm : Room) (mc ms n : Nat) : Prop :=
  (rm.cells = mc ∧ rm.slots = ms ∧ rm.frames + 1 ≤ R.frames ∧ 8 + (maxL + 11) + rm.locals ≤ R.locals ∧ (∀ w ∈ ws, ∀ (a' : Array Value) (U : State), s.WarmedH U.vm → w.before a' U = true) ∧ Cond.codeWith y bytes maxL ret hh ∈ ws) ∧
  (Cond.codeWith y bytes maxL ret hh).before args s = true ∧ (Cond.initialized y.cls).before args s = true ∧ (y.cls ≠ "java/lang/invoke/MethodHandle" ∧ y.cls ≠ "java/lang/invoke/VarHandle") ∧
  (∀ sig, parseMethodDescriptor y.desc = some sig → n = sig.parameters.length) ∧ (Cond.methodLink own index y).before args s = true ∧ (Cond.static y).before args s = true
theorem vx_cwSW {own : String} {index maxL mc ms : Nat} {y : MethodName} {bytes : ByteArray} {ret : Option FieldType} {hh : List (Nat × Nat × Nat × Nat)} {Ts ws ws' : List Cond} {rm : Room} (n : Nat) (ht : ∀ w ∈ Ts, w.before args s = true) (hT : GoodIn Ts (va_wsS own index y ws)) (hw : ws = Cond.codeWith y bytes maxL ret hh :: ws') (hrc : rm.cells = mc) (hrs : rm.slots = ms)
    (hd : y.cls ≠ "java/lang/invoke/MethodHandle" ∧ y.cls ≠ "java/lang/invoke/VarHandle" ∧ (parseMethodDescriptor y.desc).map (fun d => d.parameters.length) = some n) (hR : rm.frames + 1 ≤ R.frames ∧ 8 + (maxL + 11) + rm.locals ≤ R.locals) :
    vx_CSW R s args own index y bytes maxL ret hh ws rm mc ms n := by
  have ok : ∀ w ∈ va_wsS own index y ws, w.before args s = true := fun w h => ht w (hT w h).1
  have hG : GoodIn Ts ws := fun w h => hT w (by unfold va_wsS; exact List.mem_append_right _ h)
  have hc : Cond.codeWith y bytes maxL ret hh ∈ ws := by rw [hw]; exact List.mem_cons_self
  refine ⟨⟨hrc, hrs, hR.1, hR.2, pay_in ht hG, hc⟩, ht _ (hG _ hc).1, ok _ (by simp [va_wsS]), ⟨hd.1, hd.2.1⟩, fun sig h => ?_, ok _ (by simp [va_wsS]), ok _ (by simp [va_wsS])⟩
  have h2 := hd.2.2
  rw [h] at h2
  exact (Option.some.inj h2).symm
theorem vx_callSW (X : Stand p l e R s m args below meth c T locs cells slots) (hexec : p.tables.exec = Jvm.exec) {own : String} {index : Nat} {y : MethodName} {bytes : ByteArray} {maxL : Nat} {ret : Option FieldType} {hh : List (Nat × Nat × Nat × Nat)}
    (hown : s.vm.findClass own = some m.cls) (hlink : (Cond.methodLink own index y).before args s = true) (hstat : (Cond.static y).before args s = true) (hinit : (Cond.initialized y.cls).before args s = true)
    (hcode : (Cond.codeWith y bytes maxL ret hh).before args s = true) (hy : y.cls ≠ "java/lang/invoke/MethodHandle" ∧ y.cls ≠ "java/lang/invoke/VarHandle")
    {W9 : Nat} {Pre : Pt → Array Value → Prop} {Post : Pt → Array Value → Option Value → Pt → Prop} (hK : Back l R p e below s args y 3 W9 Pre Post)
    {g : JFrame} (hg : g.method = m) (hsize : g.locals.size = c.maxLocals) {argsL rest : List Value} (hlen : ∀ sig, parseMethodDescriptor y.desc = some sig → argsL.length = sig.parameters.length)
    (hstack : g.stack = argsL.reverse ++ rest) (hW : 2 * g.monitorRoom + (rest.map fun v => v.category).sum ≤ W9) (hdg : decode c.code g.pc = .ok (.invokestatic index, 3))
    (hpre : ∀ vm₁, s.WarmedH vm₁ → Pre ⟨T.setVm vm₁, locs, cells, slots⟩ argsL.toArray) :
    ∃ (v : Option Value) (vm₁ : Vm) (B : Pt), s.WarmedH vm₁ ∧ Stand p l e R s m args below meth c B.U B.locs B.cells B.slots ∧ Post ⟨T.setVm vm₁, locs, cells, slots⟩ argsL.toArray v B ∧
      ∀ target, Steps p.tables e below (B.U.setTop { g with pc := g.pc + 3, stack := v.toList ++ rest }) target → Steps p.tables e below (T.setTop g) target := by
  obtain ⟨mk, methM, cM, hnamed, hmethM, -, -, -, -, -, -, hsigM⟩ := Cond.codeWith_spec hcode
  have hstatic : methM.isStatic = true := Cond.static_spec hnamed hmethM hstat
  obtain ⟨kP, hkP, -⟩ := className_of_methodNamed hnamed
  have hinitP : kP.init = .initialized := Cond.initialized_spec (findClass_of_methodNamed hnamed) hkP hinit
  obtain ⟨vm₁, X₁, hstep₁⟩ := X.invokestatic hexec hown hlink hnamed hmethM hstatic hkP hinitP hy (g := g) hg (argsL := argsL) (rest := rest) (hlen _ hsigM) hstack hdg
  obtain ⟨v, B, X', hpost, hsteps⟩ := hK m meth c ⟨T.setVm vm₁, locs, cells, slots⟩ { g with stack := rest } (.invokestatic index) mk argsL.toArray X₁ hg hsize hdg hW (X₁.named hnamed) (hpre vm₁ X₁.warmed)
  exact ⟨v, vm₁, B, X₁.warmed, X', hpost, fun target h => hstep₁ _ fun acts => by rw [doInvoke_state]; exact hsteps.trans h⟩
theorem vx_runSW {y : MethodName} {bytes cc : ByteArray} {maxL nL mc ms n index : Nat} {ret : Option FieldType} {hh : List (Nat × Nat × Nat × Nat)} {ws : List Cond} {rm : Room} {Pc : Array Value → State → Prop} {Qc : Array Value → State → Outcome → State → Prop} {free : Addr → Prop} {Ts : List Cond} {own : String} {As rest : List Value} {g : JFrame}
    (S : CallFix p m c cc nL s args Ts own) (hM : Met l y ws rm Pc Qc mc ms free) (cw : vx_CSW R s args own index y bytes maxL ret hh ws rm mc ms n) (hp : PreS s H Pc As)
    (hg : g.method = m) (hn : As.length = n) (hsize : g.locals.size = nL) (hstack : g.stack = As.reverse ++ rest) (hW : 2 * g.monitorRoom + (rest.map fun v => v.category).sum ≤ 8) (hdg : decode cc g.pc = .ok (.invokestatic index, 3)) (hf : cells + mc ≤ R.cells ∧ slots + ms ≤ R.slots) :
    va_Run p l e R s m args below meth c H locs cells slots mc ms g rest (Qc As.toArray) (free) := by
  obtain ⟨⟨hrc, hrs, hfr, hlo, hws, hcw⟩, hcode, hini, hy, hlen, hl, hstt⟩ := cw
  have hK : Back l R p e below s args y 3 8 (PreOf R mc ms Pc) (PostOf Qc mc ms free) := va_backW (hh := hh) (bytes := bytes) (maxL := maxL) (ret := ret) hM hp.1 hrc hrs hfr hlo hws hcw (fun a' U hW => word_at hW (Or.inl (by first | rfl | simp [Cond.onTables, Cond.keeps, Cond.steady])) hini)
  obtain ⟨hx, hb, hml, ho, -⟩ := S
  intro T hT X
  obtain ⟨v, vm₁, ⟨U', l2, c2, s2⟩, hW₁, X', ⟨g', mk, t, L, e1, e2, hq, h1, hL, h2, h3⟩, st⟩ := vx_callSW X hx (hh := hh) (bytes := bytes) (maxL := maxL) (ret := ret) ho hl hstt hini hcode hy hK hg (hsize.trans hml.symm) (argsL := As) (rest := rest) (fun sig h => hn.trans (hlen sig h)) hstack hW (by rw [hb]; exact hdg)
    (fun vm₁ hW₁ => ⟨hf.1, hf.2, hp.2 (T.setVm vm₁) hT hW₁⟩)
  dsimp only [Pt.U, Pt.locs, Pt.cells, Pt.slots] at X' e1 e2 h1 h2 h3 st
  subst h1; subst h2; subst h3
  exact ⟨v, (T.setVm vm₁).calling g' mk As.toArray, t, U', L, hT, X', hL, e1, e2, hq, st⟩
/-- not caught here, past rows that name other classes: it goes on to the caller -/
theorem vx_outP {p : Program} {l : Launch} {e : Env} {R : Room} {s : State} {m : MethodId} {args : Array Value} {below : List Frame} {meth : Method} {c : Code} {H : Heap} {locs : List Loc} {cells slots : Nat} {free : Addr → Prop} {ls : Array Slot} {rest : List Value} {Qc : Array Value → State → Outcome → State → Prop} {XC : String → State → State → Prop}
    {pc : Nat} {own E : String} {ce : Cell} {q : Addr} {mc ms : Nat} (hown : s.vm.findClass own = some m.cls) (hlocks : meth.locks = false)
    (hpass : ∀ z ∈ c.exceptionTable.toList, covers z pc = false ∨ (z.catchType ≠ 0 ∧ ∃ nm : String, (Cond.classLink own z.catchType nm).before args s = true ∧ va_Nc E nm s)) (hcell : H[q]? = some ce) (hv : ce.vm = .none) (hcl : s.vm.findClass E = some ce.cls)
    (hx : ∀ t : State, t.heap = H → s.vm.Alike t.vm → XC E s t) (hf : ∀ z ∈ locs, free z.base) (hc : cells ≤ mc) (hs : slots ≤ ms) :
    vx_W p l e R s m args below meth c H locs cells slots (vx_MQ below Qc XC args s mc ms free) (F0 m pc ls rest) q := by
  intro T hT X
  have hpl : e.platform.magicAccessors = ({} : Platform).magicAccessors := by rw [X.admits.platform]
  obtain ⟨vm', hW', X', st⟩ := X.outThrough hlocks q (g := F0 m pc ls rest) rfl rfl rfl (cell := ce) (by rw [hT]; exact hcell) (by rw [hv]; rfl)
    (by obtain ⟨k9, h9, -⟩ := Vm.findClass_spec hcl; exact ⟨k9, h9⟩) (fun z hz => by
      rcases hpass z hz with h | ⟨hz0, nm, hl1, hn1⟩
      · exact Or.inl h
      · obtain ⟨c6, hc6, hcl6⟩ := Cond.classLink_spec hown hl1 e.platform hpl
        obtain ⟨a8, b8, h1, h2, h3⟩ := hn1
        cases Option.some.inj (h1.symm.trans hcl)
        cases Option.some.inj (h2.symm.trans hc6)
        exact Or.inr ⟨hz0, _, hcl6, h3⟩)
  obtain ⟨g₀, hfr⟩ := X'.frames_eq
  have hcell9 : ((T.setVm vm').setFrames (.throwing q :: below)).heap[q]? = some ce := by
    show T.heap[q]? = some ce
    rw [hT]; exact hcell
  have hend : Ended ((T.setVm vm').setFrames (.throwing q :: below)) below (.threw q) := State.frames_setFrames _ (State.cur_lt_of_frames hfr)
  refine ⟨(T.setVm vm').setFrames (.throwing q :: below), ?_, .threw q, X'.here.running, hend, Or.inr ⟨q, rfl, E, ce, locs, hx _ hT (X'.ends _).1.alike, hcell9, hv, hcl, (X'.ends _).1, (X'.ends _).2.mono hc hs, hf⟩⟩
  rw [X.pushThrowing_eq]
  exact st
/-- a thing of a world lies in the heap -/
theorem vx_lt {D : va_G} {cl : List vw_C} {ws : va_W} {H1 : Heap} (h : va_P D cl ws H1) {k : Nat} {q : Nat × va_E} (hk : ws[k]? = some q) : q.1 < H1.size := (h k q hk).lt
end VXS
/-! ===== END ===== -/
/-! ===== BEGIN methods with a table of their own: called by a name, returning or throwing ===== -/
section VXH
/-! vx_backW, vx_callVX, vx_callSX, vx_callVW, vx_runVW, vx_runVX, vx_runSX, vx_ofWH follow the same proofs as their sisters above (Free/Laws.lean, Shelf42/LK1.lean); vx_outP calls Shelf42/NT130.lean (outThrough). -/
section
variable {l : Launch} {R : Room} {p : Program} {e : Env} {below : List Frame} {s : State} {sargs : Array Value} {y : MethodName} {len W9 : Nat}
theorem vx_backW {ws : List Cond} {rm : Room} {Pc : Array Value → State → Prop} {Qc : Array Value → State → Outcome → State → Prop} {XC : String → State → State → Prop} {mc ms : Nat} {free : Addr → Prop} {bytes : ByteArray} {maxL : Nat} {ret : Option FieldType} {hh : List (Nat × Nat × Nat × Nat)}
    (hM : vx_Met l y ws rm Pc Qc XC mc ms free) (hblind : FrameBlind Pc) (hrc : rm.cells = mc) (hrs : rm.slots = ms)
    (hframes : rm.frames + 1 ≤ R.frames) (hlocals : W9 + (maxL + 11) + rm.locals ≤ R.locals)
    (hws : ∀ w ∈ ws, ∀ a' U, s.WarmedH U.vm → w.before a' U = true) (hcode : Cond.codeWith y bytes maxL ret hh ∈ ws) (hinit : ∀ a' U, s.WarmedH U.vm → (Cond.initialized y.cls).before a' U = true) :
    vx_Back l R p e below s sargs y len W9 (PreOf R mc ms Pc) (PostOf Qc mc ms free) (vx_Post XC mc ms free) := by
  intro m meth c A g ig mk a X hg hsize hdg hW hn hp
  have h1 : (headSpec ws rm).pre.before a A.U = true := atoms_intro fun w hw => hws w hw _ _ X.warmed
  have h2 : (Cond.codeWith y bytes maxL ret hh).before a A.U = true := hws _ hcode _ _ X.warmed
  have h3 : (Cond.initialized y.cls).before a A.U = true := hinit _ _ X.warmed
  have h4 : A.cells + (headSpec ws rm).room.cells ≤ R.cells := by rw [show (headSpec ws rm).room.cells = mc from hrc]; exact hp.1
  have h5 : A.slots + (headSpec ws rm).room.slots ≤ R.slots := by rw [show (headSpec ws rm).room.slots = ms from hrs]; exact hp.2.1
  have hPc : Pc a (A.U.calling g mk a) := hblind _ _ _ _ hp.2.2
  obtain ⟨U, Ls, c0, s0⟩ := A
  dsimp only [Pt.U, Pt.locs, Pt.cells, Pt.slots] at h1 h2 h3 h4 h5 X hn hPc ⊢
  obtain ⟨m9, methY, cY, hn9, hmY, hcY, -, hlY, -⟩ := Cond.codeWith_spec h2
  cases Option.some.inj (hn9.symm.trans hn)
  obtain ⟨kY, hkY, -⟩ := className_of_methodNamed hn
  have hinitY : kY.init = .initialized := Cond.initialized_spec (findClass_of_methodNamed hn) hkY h3
  have h : At U g.method c below := by rw [hg]; exact X.here
  have hlocals9 : W9 + (maxL + 11) + (headSpec ws rm).room.locals ≤ R.locals := hlocals
  have happ : (headSpec ws rm).appliesLoose y e.platform (U.calling g mk a) = true :=
    Spec.appliesLoose_calling (g := g) h hdg hn hkY hinitY
      (X.room_calling (g := g) (R' := (headSpec ws rm).room) hsize hmY hcY hframes (by rw [hlY]; omega) h4 h5) h1
  obtain ⟨mid, hmid⟩ := h.above
  have hfr : (U.setTop g).frames = (.java g :: mid) ++ below := by rw [State.frames_setTop' g h.top, hmid]; rfl
  obtain ⟨o, s₂, hsteps, -, hend, hq⟩ := Steps.callFree hM p X.admits X.cas X.clock (acts := []) hfr happ hPc trivial
  have hq' : vx_Q Qc XC mc ms free a (U.calling g mk a) o s₂ := hq
  rw [State.frames_setTop' g h.top] at hend
  obtain ⟨g₀, hg0⟩ := Option.isSome_iff_exists.mp h.top
  obtain ⟨r, hr⟩ := State.topJava?_eq_some.mp hg0
  have hr' : (({ U with heap := s₂.heap, slotsUsed := s₂.slotsUsed } : State).setVm s₂.vm).frames = .java g₀ :: r := hr
  rcases hq' with ⟨hqc, L, hfe, hL⟩ | ⟨q, rfl, E, ce, L, hx, hce, hcv, hcl, hW₂, hsm, hL⟩
  · obtain ⟨⟨v, rfl⟩, hW₂, e2, q2, q3, q4, q5, q6⟩ := id hfe
    have e3 : s₂ = ({ (U.calling g mk a).setFrames s₂.frames with heap := s₂.heap, slotsUsed := s₂.slotsUsed } : State).setVm s₂.vm := by
      have : s₂ = ({ s₂ with vm := (U.calling g mk a).vm } : State).setVm s₂.vm := rfl
      rw [e2] at this
      exact this
    obtain ⟨c₂, i₂, len₂, hc₂, hd₂, hf₂⟩ := hend
    have hW' : U.WarmedH s₂.vm := hW₂
    have hcc : c₂ = c := by
      have h1 : s₂.code? g.method = U.code? g.method := by
        rw [State.code?_eq, State.code?_eq, hW'.alike.method?]
      exact Option.some.inj (hc₂.symm.trans (h1.trans h.code))
    subst hcc
    have hlen : len₂ = len := by rw [hdg] at hd₂; cases hd₂; rfl
    subst hlen
    have hs₂ : s₂ = (({ U with heap := s₂.heap, slotsUsed := s₂.slotsUsed } : State).setVm s₂.vm).setTop { g with pc := g.pc + len₂, stack := v.toList ++ g.stack } := by
      refine e3.trans ?_
      rw [hf₂, State.calling_eq h.top, State.setFrames_setFrames, State.setTop_of_frames _ hr', hr]
      rfl
    have hsame : U.sameButNew ({ U with heap := s₂.heap, slotsUsed := s₂.slotsUsed } : State) L mc ms := by
      refine ⟨?_, q2, q3, q4, q5, q6⟩
      obtain ⟨t, ht, -⟩ := State.frames_cons hr
      show ({ U with heap := s₂.heap, slotsUsed := s₂.slotsUsed } : State) = { U.setFrames U.frames with heap := s₂.heap, slotsUsed := s₂.slotsUsed }
      rw [State.setFrames_self ht]
    subst hg
    refine Or.inl ⟨v, ⟨(({ U with heap := s₂.heap, slotsUsed := s₂.slotsUsed } : State).setVm s₂.vm), Ls ++ L, c0 + mc, s0 + ms⟩,
      ⟨X.admits, X.cas, X.clock, X.frames, X.room, X.hears, X.method, X.code, (X.here.setHeapUsed s₂.heap s₂.slotsUsed).setVm hW'.alike, X.tail, State.WarmedH.trans X.warmed hW', X.limits, X.bytes, X.same.trans (hsame.setVm s.vm)⟩,
      ⟨g, mk, s₂, L, rfl, rfl, hqc, rfl, hL, rfl, rfl⟩, ?_⟩
    show Steps p.tables e below _ ((({ U with heap := s₂.heap, slotsUsed := s₂.slotsUsed } : State).setVm s₂.vm).setTop { g with pc := g.pc + len₂, stack := v.toList ++ g.stack })
    rw [← hs₂]
    exact hsteps
  · obtain ⟨e2, q2, q3, q4, q5, q6⟩ := id hsm
    have e3 : s₂ = ({ (U.calling g mk a).setFrames s₂.frames with heap := s₂.heap, slotsUsed := s₂.slotsUsed } : State).setVm s₂.vm := by
      have : s₂ = ({ s₂ with vm := (U.calling g mk a).vm } : State).setVm s₂.vm := rfl
      rw [e2] at this
      exact this
    have hf₂ : s₂.frames = .throwing q :: .java g :: U.frames.tail := hend
    have hW' : U.WarmedH s₂.vm := hW₂
    have hs₂ : s₂ = ((({ U with heap := s₂.heap, slotsUsed := s₂.slotsUsed } : State).setVm s₂.vm).setTop g).pushFrame (.throwing q) := by
      refine e3.trans ?_
      rw [hf₂, State.calling_eq h.top, State.setFrames_setFrames, State.pushFrame, State.frames_setTop _ hr', State.setTop_of_frames _ hr', State.setFrames_setFrames, hr]
      rfl
    have hsame : U.sameButNew ({ U with heap := s₂.heap, slotsUsed := s₂.slotsUsed } : State) L mc ms := by
      refine ⟨?_, q2, q3, q4, q5, q6⟩
      obtain ⟨t, ht, -⟩ := State.frames_cons hr
      show ({ U with heap := s₂.heap, slotsUsed := s₂.slotsUsed } : State) = { U.setFrames U.frames with heap := s₂.heap, slotsUsed := s₂.slotsUsed }
      rw [State.setFrames_self ht]
    subst hg
    refine Or.inr ⟨q, ⟨(({ U with heap := s₂.heap, slotsUsed := s₂.slotsUsed } : State).setVm s₂.vm), Ls ++ L, c0 + mc, s0 + ms⟩,
      ⟨X.admits, X.cas, X.clock, X.frames, X.room, X.hears, X.method, X.code, (X.here.setHeapUsed s₂.heap s₂.slotsUsed).setVm hW'.alike, X.tail, State.WarmedH.trans X.warmed hW', X.limits, X.bytes, X.same.trans (hsame.setVm s.vm)⟩,
      ⟨g, mk, s₂, L, E, ce, rfl, rfl, hx, hce, hcv, hcl, rfl, hL, rfl, rfl⟩, ?_⟩
    show Steps p.tables e below _ (((({ U with heap := s₂.heap, slotsUsed := s₂.slotsUsed } : State).setVm s₂.vm).setTop g).pushFrame (.throwing q))
    rw [← hs₂]
    exact hsteps
end
variable {p : Program} {l : Launch} {e : Env} {R : Room} {s : State} {m : MethodId} {args : Array Value} {below : List Frame} {meth : Method} {c : Code} {T : State} {H : Heap} {locs : List Loc} {cells slots : Nat}
theorem vx_callVX (X : Stand p l e R s m args below meth c T locs cells slots) (hexec : p.tables.exec = Jvm.exec) {own C : String} {index : Nat} {y : MethodName} {bytes : ByteArray} {maxL : Nat} {ret : Option FieldType} {hh : List (Nat × Nat × Nat × Nat)}
    (hown : s.vm.findClass own = some m.cls) (hlink : (Cond.methodLink own index y).before args s = true) (hinst : (Cond.instanceMethod y).before args s = true) (hsel : (Cond.selects C y y).before args s = true)
    (hcode : (Cond.codeWith y bytes maxL ret hh).before args s = true) (hy : y.cls ≠ "java/lang/invoke/MethodHandle" ∧ y.cls ≠ "java/lang/invoke/VarHandle")
    {W9 : Nat} {Pre : Pt → Array Value → Prop} {Post : Pt → Array Value → Option Value → Pt → Prop} {PostX : Pt → Array Value → Addr → Pt → Prop} (hK : vx_Back l R p e below s args y 3 W9 Pre Post PostX)
    {b : Addr} {cellB : Cell} (hcell : T.heap[b]? = some cellB) (hobj : cellB.vm.isStatics = false) (hcls : s.vm.findClass C = some cellB.cls)
    {g : JFrame} (hg : g.method = m) (hsize : g.locals.size = c.maxLocals) {argsL rest : List Value} (hlen : ∀ sig, parseMethodDescriptor y.desc = some sig → argsL.length = sig.parameters.length)
    (hstack : g.stack = argsL.reverse ++ .ref b :: rest) (hW : 2 * g.monitorRoom + (rest.map fun v => v.category).sum ≤ W9) (hdg : decode c.code g.pc = .ok (.invokevirtual index, 3))
    (hpre : ∀ vm₁, s.WarmedH vm₁ → Pre ⟨T.setVm vm₁, locs, cells, slots⟩ (Value.ref b :: argsL).toArray) :
    (∃ (v : Option Value) (vm₁ : Vm) (B : Pt), s.WarmedH vm₁ ∧ Stand p l e R s m args below meth c B.U B.locs B.cells B.slots ∧ Post ⟨T.setVm vm₁, locs, cells, slots⟩ (Value.ref b :: argsL).toArray v B ∧
      ∀ target, Steps p.tables e below (B.U.setTop { g with pc := g.pc + 3, stack := v.toList ++ rest }) target → Steps p.tables e below (T.setTop g) target) ∨
    (∃ (q : Addr) (vm₁ : Vm) (B : Pt), s.WarmedH vm₁ ∧ Stand p l e R s m args below meth c B.U B.locs B.cells B.slots ∧ PostX ⟨T.setVm vm₁, locs, cells, slots⟩ (Value.ref b :: argsL).toArray q B ∧
      Steps p.tables e below (T.setTop g) ((B.U.setTop { g with stack := rest }).pushFrame (.throwing q))) := by
  obtain ⟨mk, methM, hnamed, hmethM, hstM, habM⟩ := Cond.instanceMethod_spec hinst
  obtain ⟨m8, methM', cM, hn8, hmethM', -, -, -, -, -, -, hsigM⟩ := Cond.codeWith_spec hcode
  cases Option.some.inj (hn8.symm.trans hnamed)
  cases hmethM.symm.trans hmethM'
  obtain ⟨c2, r2, m2, q1, q2, q3, q4, kP, hkP, hkPi⟩ := Cond.selects_spec hsel
  cases hcls.symm.trans q1
  cases (State.methodFound?_of_named hnamed hy).symm.trans q2
  cases hnamed.symm.trans q3
  have hselP : selectMethod e.platform s.vm cellB.cls mk = .method mk := by rw [Launch.admits_selectMethod X.admits]; exact q4
  obtain ⟨vm₁, X₁, hstep₁⟩ := X.invokevirtual hexec hown hlink hnamed hmethM hstM hkP hkPi hy (a := b) (cell := cellB) hcell
    (fun z h => by rw [h] at hobj; cases hobj) hselP hmethM habM hkP hkPi (g := g) hg (argsL := argsL) (rest := rest) (hlen _ hsigM) hstack hdg
  rcases hK m meth c ⟨T.setVm vm₁, locs, cells, slots⟩ { g with stack := rest } (.invokevirtual index) mk (Value.ref b :: argsL).toArray X₁ hg hsize hdg hW (X₁.named hnamed) (hpre vm₁ X₁.warmed) with ⟨v, B, X', hpost, hsteps⟩ | ⟨q, B, X', hpost, hsteps⟩
  · exact Or.inl ⟨v, vm₁, B, X₁.warmed, X', hpost, fun target h => hstep₁ _ fun acts => by rw [doInvoke_state]; exact hsteps.trans h⟩
  · exact Or.inr ⟨q, vm₁, B, X₁.warmed, X', hpost, hstep₁ _ fun acts => by rw [doInvoke_state]; exact hsteps⟩
theorem vx_callSX (X : Stand p l e R s m args below meth c T locs cells slots) (hexec : p.tables.exec = Jvm.exec) {own : String} {index : Nat} {y : MethodName} {bytes : ByteArray} {maxL : Nat} {ret : Option FieldType} {hh : List (Nat × Nat × Nat × Nat)}
    (hown : s.vm.findClass own = some m.cls) (hlink : (Cond.methodLink own index y).before args s = true) (hstat : (Cond.static y).before args s = true) (hinit : (Cond.initialized y.cls).before args s = true)
    (hcode : (Cond.codeWith y bytes maxL ret hh).before args s = true) (hy : y.cls ≠ "java/lang/invoke/MethodHandle" ∧ y.cls ≠ "java/lang/invoke/VarHandle")
    {W9 : Nat} {Pre : Pt → Array Value → Prop} {Post : Pt → Array Value → Option Value → Pt → Prop} {PostX : Pt → Array Value → Addr → Pt → Prop} (hK : vx_Back l R p e below s args y 3 W9 Pre Post PostX)
    {g : JFrame} (hg : g.method = m) (hsize : g.locals.size = c.maxLocals) {argsL rest : List Value} (hlen : ∀ sig, parseMethodDescriptor y.desc = some sig → argsL.length = sig.parameters.length)
    (hstack : g.stack = argsL.reverse ++ rest) (hW : 2 * g.monitorRoom + (rest.map fun v => v.category).sum ≤ W9) (hdg : decode c.code g.pc = .ok (.invokestatic index, 3))
    (hpre : ∀ vm₁, s.WarmedH vm₁ → Pre ⟨T.setVm vm₁, locs, cells, slots⟩ argsL.toArray) :
    (∃ (v : Option Value) (vm₁ : Vm) (B : Pt), s.WarmedH vm₁ ∧ Stand p l e R s m args below meth c B.U B.locs B.cells B.slots ∧ Post ⟨T.setVm vm₁, locs, cells, slots⟩ argsL.toArray v B ∧
      ∀ target, Steps p.tables e below (B.U.setTop { g with pc := g.pc + 3, stack := v.toList ++ rest }) target → Steps p.tables e below (T.setTop g) target) ∨
    (∃ (q : Addr) (vm₁ : Vm) (B : Pt), s.WarmedH vm₁ ∧ Stand p l e R s m args below meth c B.U B.locs B.cells B.slots ∧ PostX ⟨T.setVm vm₁, locs, cells, slots⟩ argsL.toArray q B ∧
      Steps p.tables e below (T.setTop g) ((B.U.setTop { g with stack := rest }).pushFrame (.throwing q))) := by
  obtain ⟨mk, methM, cM, hnamed, hmethM, -, -, -, -, -, -, hsigM⟩ := Cond.codeWith_spec hcode
  have hstatic : methM.isStatic = true := Cond.static_spec hnamed hmethM hstat
  obtain ⟨kP, hkP, -⟩ := className_of_methodNamed hnamed
  have hinitP : kP.init = .initialized := Cond.initialized_spec (findClass_of_methodNamed hnamed) hkP hinit
  obtain ⟨vm₁, X₁, hstep₁⟩ := X.invokestatic hexec hown hlink hnamed hmethM hstatic hkP hinitP hy (g := g) hg (argsL := argsL) (rest := rest) (hlen _ hsigM) hstack hdg
  rcases hK m meth c ⟨T.setVm vm₁, locs, cells, slots⟩ { g with stack := rest } (.invokestatic index) mk argsL.toArray X₁ hg hsize hdg hW (X₁.named hnamed) (hpre vm₁ X₁.warmed) with ⟨v, B, X', hpost, hsteps⟩ | ⟨q, B, X', hpost, hsteps⟩
  · exact Or.inl ⟨v, vm₁, B, X₁.warmed, X', hpost, fun target h => hstep₁ _ fun acts => by rw [doInvoke_state]; exact hsteps.trans h⟩
  · exact Or.inr ⟨q, vm₁, B, X₁.warmed, X', hpost, hstep₁ _ fun acts => by rw [doInvoke_state]; exact hsteps⟩
theorem vx_callVW (X : Stand p l e R s m args below meth c T locs cells slots) (hexec : p.tables.exec = Jvm.exec) {own C : String} {index : Nat} {y : MethodName} {bytes : ByteArray} {maxL : Nat} {ret : Option FieldType} {hh : List (Nat × Nat × Nat × Nat)}
    (hown : s.vm.findClass own = some m.cls) (hlink : (Cond.methodLink own index y).before args s = true) (hinst : (Cond.instanceMethod y).before args s = true) (hsel : (Cond.selects C y y).before args s = true)
    (hcode : (Cond.codeWith y bytes maxL ret hh).before args s = true) (hy : y.cls ≠ "java/lang/invoke/MethodHandle" ∧ y.cls ≠ "java/lang/invoke/VarHandle")
    {W9 : Nat} {Pre : Pt → Array Value → Prop} {Post : Pt → Array Value → Option Value → Pt → Prop} (hK : Back l R p e below s args y 3 W9 Pre Post)
    {b : Addr} {cellB : Cell} (hcell : T.heap[b]? = some cellB) (hobj : cellB.vm.isStatics = false) (hcls : s.vm.findClass C = some cellB.cls)
    {g : JFrame} (hg : g.method = m) (hsize : g.locals.size = c.maxLocals) {argsL rest : List Value} (hlen : ∀ sig, parseMethodDescriptor y.desc = some sig → argsL.length = sig.parameters.length)
    (hstack : g.stack = argsL.reverse ++ .ref b :: rest) (hW : 2 * g.monitorRoom + (rest.map fun v => v.category).sum ≤ W9) (hdg : decode c.code g.pc = .ok (.invokevirtual index, 3))
    (hpre : ∀ vm₁, s.WarmedH vm₁ → Pre ⟨T.setVm vm₁, locs, cells, slots⟩ (Value.ref b :: argsL).toArray) :
    ∃ (v : Option Value) (vm₁ : Vm) (B : Pt), s.WarmedH vm₁ ∧ Stand p l e R s m args below meth c B.U B.locs B.cells B.slots ∧ Post ⟨T.setVm vm₁, locs, cells, slots⟩ (Value.ref b :: argsL).toArray v B ∧
      ∀ target, Steps p.tables e below (B.U.setTop { g with pc := g.pc + 3, stack := v.toList ++ rest }) target → Steps p.tables e below (T.setTop g) target := by
  obtain ⟨mk, methM, hnamed, hmethM, hstM, habM⟩ := Cond.instanceMethod_spec hinst
  obtain ⟨m8, methM', cM, hn8, hmethM', -, -, -, -, -, -, hsigM⟩ := Cond.codeWith_spec hcode
  cases Option.some.inj (hn8.symm.trans hnamed)
  cases hmethM.symm.trans hmethM'
  obtain ⟨c2, r2, m2, q1, q2, q3, q4, kP, hkP, hkPi⟩ := Cond.selects_spec hsel
  cases hcls.symm.trans q1
  cases (State.methodFound?_of_named hnamed hy).symm.trans q2
  cases hnamed.symm.trans q3
  have hselP : selectMethod e.platform s.vm cellB.cls mk = .method mk := by rw [Launch.admits_selectMethod X.admits]; exact q4
  obtain ⟨vm₁, X₁, hstep₁⟩ := X.invokevirtual hexec hown hlink hnamed hmethM hstM hkP hkPi hy (a := b) (cell := cellB) hcell
    (fun z h => by rw [h] at hobj; cases hobj) hselP hmethM habM hkP hkPi (g := g) hg (argsL := argsL) (rest := rest) (hlen _ hsigM) hstack hdg
  obtain ⟨v, B, X', hpost, hsteps⟩ := hK m meth c ⟨T.setVm vm₁, locs, cells, slots⟩ { g with stack := rest } (.invokevirtual index) mk (Value.ref b :: argsL).toArray X₁ hg hsize hdg hW (X₁.named hnamed) (hpre vm₁ X₁.warmed)
  exact ⟨v, vm₁, B, X₁.warmed, X', hpost, fun target h => hstep₁ _ fun acts => by rw [doInvoke_state]; exact hsteps.trans h⟩
abbrev vx_CVW (R : Room) (s : State) (args : Array Value) (own C : String) (index : Nat) (y : MethodName) (bytes : ByteArray) (maxL : Nat) (ret : Option FieldType) (hh : List (Nat × Nat × Nat × Nat)) (ws : List Cond) (rm : Room) (mc ms n : Nat) : Prop :=
  (rm.cells = mc ∧ rm.slots = ms ∧ rm.frames + 1 ≤ R.frames ∧ 8 + (maxL + 11) + rm.locals ≤ R.locals ∧ (∀ w ∈ ws, ∀ (a' : Array Value) (U : State), s.WarmedH U.vm → w.before a' U = true) ∧ Cond.codeWith y bytes maxL ret hh ∈ ws) ∧
  (Cond.codeWith y bytes maxL ret hh).before args s = true ∧ (Cond.initialized y.cls).before args s = true ∧ (y.cls ≠ "java/lang/invoke/MethodHandle" ∧ y.cls ≠ "java/lang/invoke/VarHandle") ∧
  (∀ sig, parseMethodDescriptor y.desc = some sig → n = sig.parameters.length) ∧ (Cond.methodLink own index y).before args s = true ∧ (Cond.instanceMethod y).before args s = true ∧ (Cond.selects C y y).before args s = true
theorem vx_cwVW {own C : String} {index maxL mc ms : Nat} {y : MethodName} {bytes : ByteArray} {ret : Option FieldType} {hh : List (Nat × Nat × Nat × Nat)} {Ts ws ws' : List Cond} {rm : Room} (n : Nat) (ht : ∀ w ∈ Ts, w.before args s = true) (hT : GoodIn Ts (wsV own index C y ws)) (hw : ws = Cond.codeWith y bytes maxL ret hh :: ws') (hrc : rm.cells = mc) (hrs : rm.slots = ms)
    (hd : y.cls = C ∧ y.cls ≠ "java/lang/invoke/MethodHandle" ∧ y.cls ≠ "java/lang/invoke/VarHandle" ∧ (parseMethodDescriptor y.desc).map (fun d => d.parameters.length) = some n) (hR : rm.frames + 1 ≤ R.frames ∧ 8 + (maxL + 11) + rm.locals ≤ R.locals) :
    vx_CVW R s args own C index y bytes maxL ret hh ws rm mc ms n := by
  obtain ⟨hC, hd⟩ := hd
  subst hC
  have ok : ∀ w ∈ wsV own index y.cls y ws, w.before args s = true := fun w h => ht w (hT w h).1
  have hG : GoodIn Ts ws := fun w h => hT w (by unfold wsV; exact List.mem_append_right _ h)
  have hc : Cond.codeWith y bytes maxL ret hh ∈ ws := by rw [hw]; exact List.mem_cons_self
  refine ⟨⟨hrc, hrs, hR.1, hR.2, pay_in ht hG, hc⟩, ht _ (hG _ hc).1, ok _ (by simp [wsV]), ⟨hd.1, hd.2.1⟩, fun sig h => ?_, ok _ (by simp [wsV]), ok _ (by simp [wsV]), ok _ (by simp [wsV])⟩
  have h2 := hd.2.2
  rw [h] at h2
  exact (Option.some.inj h2).symm
theorem vx_runVW {y : MethodName} {bytes cc : ByteArray} {maxL nL mc ms n index : Nat} {ret : Option FieldType} {hh : List (Nat × Nat × Nat × Nat)} {ws : List Cond} {rm : Room} {Pc : Array Value → State → Prop} {Qc : Array Value → State → Outcome → State → Prop} {free : Addr → Prop} {Ts : List Cond} {own C : String} {b : Addr} {As rest : List Value} {g : JFrame}
    (S : CallFix p m c cc nL s args Ts own) (hM : Met l y ws rm Pc Qc mc ms free) (cw : vx_CVW R s args own C index y bytes maxL ret hh ws rm mc ms n) (hp : PreV s H C b Pc As)
    (hg : g.method = m) (hn : As.length = n) (hsize : g.locals.size = nL) (hstack : g.stack = As.reverse ++ .ref b :: rest) (hW : 2 * g.monitorRoom + (rest.map fun v => v.category).sum ≤ 8) (hdg : decode cc g.pc = .ok (.invokevirtual index, 3)) (hf : cells + mc ≤ R.cells ∧ slots + ms ≤ R.slots) :
    va_Run p l e R s m args below meth c H locs cells slots mc ms g rest (Qc (Value.ref b :: As).toArray) free := by
  obtain ⟨⟨hrc, hrs, hfr, hlo, hws, hcw⟩, hcode, hini, hy, hlen, hl, hin, hse⟩ := cw
  have hK : Back l R p e below s args y 3 8 (PreOf R mc ms Pc) (PostOf Qc mc ms free) := va_backW (hh := hh) (bytes := bytes) (maxL := maxL) (ret := ret) hM hp.1 hrc hrs hfr hlo hws hcw (fun a' U hW => word_at hW (Or.inl (by first | rfl | simp [Cond.onTables, Cond.keeps, Cond.steady])) hini)
  obtain ⟨hx, hb, hml, ho, -⟩ := S
  obtain ⟨-, ⟨cellB, hcB, hoB, hclB⟩, hPc⟩ := hp
  intro T hT X
  obtain ⟨v, vm₁, ⟨U', l2, c2, s2⟩, hW₁, X', ⟨g', mk, t, L, e1, e2, hq, h1, hL, h2, h3⟩, st⟩ := vx_callVW X hx (C := C) (hh := hh) (bytes := bytes) (maxL := maxL) (ret := ret) ho hl hin hse hcode hy hK (by rw [hT]; exact hcB) hoB hclB hg (hsize.trans hml.symm) (argsL := As) (rest := rest) (fun sig h => hn.trans (hlen sig h)) hstack hW (by rw [hb]; exact hdg)
    (fun vm₁ hW₁ => ⟨hf.1, hf.2, hPc (T.setVm vm₁) hT hW₁⟩)
  dsimp only [Pt.U, Pt.locs, Pt.cells, Pt.slots] at X' e1 e2 h1 h2 h3 st
  subst h1; subst h2; subst h3
  exact ⟨v, (T.setVm vm₁).calling g' mk (Value.ref b :: As).toArray, t, U', L, hT, X', hL, e1, e2, hq, st⟩
section
variable {y : MethodName} {bytes cc : ByteArray} {maxL nL mc ms n index : Nat} {ret : Option FieldType} {ws : List Cond} {rm : Room} {Pc : Array Value → State → Prop} {Qc : Array Value → State → Outcome → State → Prop} {XC : String → State → State → Prop} {free : Addr → Prop} {Ts : List Cond} {own C : String} {b : Addr} {As rest : List Value} {g : JFrame}
theorem vx_runVX {hh : List (Nat × Nat × Nat × Nat)} (S : CallFix p m c cc nL s args Ts own) (hM : vx_Met l y ws rm Pc Qc XC mc ms free) (cw : vx_CVW R s args own C index y bytes maxL ret hh ws rm mc ms n) (hp : PreV s H C b Pc As)
    (hg : g.method = m) (hn : As.length = n) (hsize : g.locals.size = nL) (hstack : g.stack = As.reverse ++ .ref b :: rest) (hW : 2 * g.monitorRoom + (rest.map fun v => v.category).sum ≤ 8) (hdg : decode cc g.pc = .ok (.invokevirtual index, 3)) (hf : cells + mc ≤ R.cells ∧ slots + ms ≤ R.slots) :
    vx_Run p l e R s m args below meth c H locs cells slots mc ms g rest (Qc (Value.ref b :: As).toArray) XC free := by
  obtain ⟨⟨hrc, hrs, hfr, hlo, hws, hcw⟩, hcode, hini, hy, hlen, hl, hin, hse⟩ := cw
  have hK : vx_Back l R p e below s args y 3 8 (PreOf R mc ms Pc) (PostOf Qc mc ms free) (vx_Post XC mc ms free) := vx_backW (hh := hh) (bytes := bytes) (maxL := maxL) (ret := ret) hM hp.1 hrc hrs hfr hlo hws hcw (fun a' U hW => word_at hW (Or.inl (by first | rfl | simp [Cond.onTables, Cond.keeps, Cond.steady])) hini)
  obtain ⟨hx, hb, hml, ho, -⟩ := S
  obtain ⟨-, ⟨cellB, hcB, hoB, hclB⟩, hPc⟩ := hp
  intro T hT X
  rcases vx_callVX X hx (C := C) (hh := hh) (bytes := bytes) (maxL := maxL) (ret := ret) ho hl hin hse hcode hy hK (by rw [hT]; exact hcB) hoB hclB hg (hsize.trans hml.symm) (argsL := As) (rest := rest) (fun sig h => hn.trans (hlen sig h)) hstack hW (by rw [hb]; exact hdg)
    (fun vm₁ hW₁ => ⟨hf.1, hf.2, hPc (T.setVm vm₁) hT hW₁⟩) with ⟨v, vm₁, ⟨U', l2, c2, s2⟩, hW₁, X', ⟨g', mk, t, L, e1, e2, hq, h1, hL, h2, h3⟩, st⟩ | ⟨q, vm₁, ⟨U', l2, c2, s2⟩, hW₁, X', ⟨g', mk, t, L, E, ce, e1, e2, hq, hce, hcv, hcl, h1, hL, h2, h3⟩, st⟩
  · dsimp only [Pt.U, Pt.locs, Pt.cells, Pt.slots] at X' e1 e2 h1 h2 h3 st
    subst h1; subst h2; subst h3
    exact Or.inl ⟨v, (T.setVm vm₁).calling g' mk (Value.ref b :: As).toArray, t, U', L, hT, X', hL, e1, e2, hq, st⟩
  · dsimp only [Pt.U, Pt.locs, Pt.cells, Pt.slots] at X' e1 e2 h1 h2 h3 st hcl
    subst h1; subst h2; subst h3
    exact Or.inr ⟨q, (T.setVm vm₁).calling g' mk (Value.ref b :: As).toArray, t, U', L, E, ce, hT, X', hL, e1, e2, hq, hce, hcv, vx_cls hW₁ hcl, st⟩
theorem vx_runSX {hh : List (Nat × Nat × Nat × Nat)} (S : CallFix p m c cc nL s args Ts own) (hM : vx_Met l y ws rm Pc Qc XC mc ms free) (cw : vx_CSW R s args own index y bytes maxL ret hh ws rm mc ms n) (hp : PreS s H Pc As)
    (hg : g.method = m) (hn : As.length = n) (hsize : g.locals.size = nL) (hstack : g.stack = As.reverse ++ rest) (hW : 2 * g.monitorRoom + (rest.map fun v => v.category).sum ≤ 8) (hdg : decode cc g.pc = .ok (.invokestatic index, 3)) (hf : cells + mc ≤ R.cells ∧ slots + ms ≤ R.slots) :
    vx_Run p l e R s m args below meth c H locs cells slots mc ms g rest (Qc As.toArray) XC free := by
  obtain ⟨⟨hrc, hrs, hfr, hlo, hws, hcw⟩, hcode, hini, hy, hlen, hl, hstt⟩ := cw
  have hK : vx_Back l R p e below s args y 3 8 (PreOf R mc ms Pc) (PostOf Qc mc ms free) (vx_Post XC mc ms free) := vx_backW (hh := hh) (bytes := bytes) (maxL := maxL) (ret := ret) hM hp.1 hrc hrs hfr hlo hws hcw (fun a' U hW => word_at hW (Or.inl (by first | rfl | simp [Cond.onTables, Cond.keeps, Cond.steady])) hini)
  obtain ⟨hx, hb, hml, ho, -⟩ := S
  intro T hT X
  rcases vx_callSX X hx (hh := hh) (bytes := bytes) (maxL := maxL) (ret := ret) ho hl hstt hini hcode hy hK hg (hsize.trans hml.symm) (argsL := As) (rest := rest) (fun sig h => hn.trans (hlen sig h)) hstack hW (by rw [hb]; exact hdg)
    (fun vm₁ hW₁ => ⟨hf.1, hf.2, hp.2 (T.setVm vm₁) hT hW₁⟩) with ⟨v, vm₁, ⟨U', l2, c2, s2⟩, hW₁, X', ⟨g', mk, t, L, e1, e2, hq, h1, hL, h2, h3⟩, st⟩ | ⟨q, vm₁, ⟨U', l2, c2, s2⟩, hW₁, X', ⟨g', mk, t, L, E, ce, e1, e2, hq, hce, hcv, hcl, h1, hL, h2, h3⟩, st⟩
  · dsimp only [Pt.U, Pt.locs, Pt.cells, Pt.slots] at X' e1 e2 h1 h2 h3 st
    subst h1; subst h2; subst h3
    exact Or.inl ⟨v, (T.setVm vm₁).calling g' mk As.toArray, t, U', L, hT, X', hL, e1, e2, hq, st⟩
  · dsimp only [Pt.U, Pt.locs, Pt.cells, Pt.slots] at X' e1 e2 h1 h2 h3 st hcl
    subst h1; subst h2; subst h3
    exact Or.inr ⟨q, (T.setVm vm₁).calling g' mk As.toArray, t, U', L, E, ce, hT, X', hL, e1, e2, hq, hce, hcv, vx_cls hW₁ hcl, st⟩
end
end VXH
theorem vx_ofWH {l : Launch} {y : MethodName} {ws ws' : List Cond} {rm : Room} {Pc : Array Value → State → Prop} {Qc : Array Value → State → Outcome → State → Prop} {XC : String → State → State → Prop} {mc ms : Nat} {free : Addr → Prop} {cc : ByteArray} {maxL : Nat} {ret : Option FieldType} {hh : List (Nat × Nat × Nat × Nat)}
    (hy : plainName y.cls = true) (hw : ws = Cond.codeWith y cc maxL ret hh :: ws')
    (body : ∀ p e s m args below meth c s₁, BodyLoose p l y (headSpec ws rm) cc maxL ret e s m args below meth c s₁ → c.maxLocals = maxL → Pc args s →
      W p l e (headSpec ws rm).room s m args below meth c s.heap [] 0 0 (vx_MQ below Qc XC args s mc ms free) (entryFrame m args maxL)) : vx_Met l y ws rm Pc Qc XC mc ms free := by
  refine MetFree.of_bodyS (code := cc) (maxLocals := maxL) (ret := ret) hy ?_ ?_
  · intro args s m h hn
    obtain ⟨m9, meth, c, hn9, h1, h2, h3, h4, -, h5, h6, -⟩ := Cond.codeWith_spec (atoms_spec (ws := ws) h _ (by rw [hw]; exact List.mem_cons_self))
    cases hn.symm.trans hn9
    exact ⟨meth, c, h1, h2, h3, h4, h5, h6⟩
  · intro p e s m args below meth c s₁ B hml hP _
    have hh0 : s₁.heap = s.heap := by rw [B.state]; rfl
    obtain ⟨t, a1, o, b1, b2, b3⟩ := body p e s m args below meth c s₁ B hml hP s₁ hh0 (Stand.of_body B)
    exact ⟨t, o, a1, b1, b2, b3⟩
/-! ===== END ===== -/
end
section
/-! ===== BEGIN printed: names, fields, word lists, decode rows ===== -/
def RX0 : String := "LoopScheduler$Loop"
def TX0 : u_T := fun k => match k with
  | 0 => ("LoopScheduler$Loop", "units", "[I", true)
  | 1 => ("LoopScheduler$Loop", "kinds", "[I", true)
  | 2 => ("LoopScheduler$Loop", "busy", "[I", true)
  | 3 => ("LoopScheduler$Loop", "sources", "[I", true)
  | 4 => ("LoopScheduler$Loop", "targets", "[I", true)
  | 5 => ("LoopScheduler$Loop", "delays", "[I", true)
  | 6 => ("LoopScheduler$Loop", "distances", "[I", true)
  | 7 => ("LoopScheduler$Loop", "heights", "[I", true)
  | 8 => ("LoopScheduler$Loop", "operations", "I", false)
  | _ => ("LoopScheduler$Loop", "dependences", "I", false)
def tyX0 : Nat → FieldType := fun k => match k with
  | 0 => .array .int
  | 1 => .array .int
  | 2 => .array .int
  | 3 => .array .int
  | 4 => .array .int
  | 5 => .array .int
  | 6 => .array .int
  | 7 => .array .int
  | 8 => .int
  | _ => .int
abbrev wsX00 : List Cond := u_ws RX0 TX0 10
theorem nmX0 : ∀ a, a < 10 → ∀ b, b < 10 → a ≠ b → (TX0 a).2.1 ≠ (TX0 b).2.1 := by decide +kernel
theorem tyX0_ok : ∀ k, k < 10 → parseFieldDescriptor (TX0 k).2.2.1 = some (tyX0 k) := by decide +kernel
abbrev cX0_init : ByteArray := prog_2_method_1_code
def yX0_init : MethodName := ⟨RX0, "<init>", "()V"⟩
abbrev cX0_appendOperation : ByteArray := prog_2_method_2_code
def yX0_appendOperation : MethodName := ⟨RX0, "appendOperation", "(II)I"⟩
abbrev cX0_appendDependence : ByteArray := prog_2_method_3_code
def yX0_appendDependence : MethodName := ⟨RX0, "appendDependence", "(IIII)I"⟩
abbrev cX0_leastIntervalOfResources : ByteArray := prog_2_method_4_code
def yX0_leastIntervalOfResources : MethodName := ⟨RX0, "leastIntervalOfResources", "()I"⟩
abbrev cX0_busyCycles : ByteArray := prog_2_method_5_code
def yX0_busyCycles : MethodName := ⟨RX0, "busyCycles", "(I)I"⟩
abbrev cX0_leastIntervalOfRecurrences : ByteArray := prog_2_method_6_code
def yX0_leastIntervalOfRecurrences : MethodName := ⟨RX0, "leastIntervalOfRecurrences", "()I"⟩
abbrev cX0_findHeights : ByteArray := prog_2_method_7_code
def yX0_findHeights : MethodName := ⟨RX0, "findHeights", "(I)Z"⟩
abbrev cX0_raiseHeights : ByteArray := prog_2_method_8_code
def yX0_raiseHeights : MethodName := ⟨RX0, "raiseHeights", "(I)Z"⟩
def RX1 : String := "LoopScheduler$Timetable"
def TX1 : u_T := fun k => match k with
  | 0 => ("LoopScheduler$Timetable", "loop", "LLoopScheduler$Loop;", true)
  | 1 => ("LoopScheduler$Timetable", "times", "[I", true)
  | 2 => ("LoopScheduler$Timetable", "takenUnits", "[[I", true)
  | 3 => ("LoopScheduler$Timetable", "lifetimes", "[I", true)
  | _ => ("LoopScheduler$Timetable", "interval", "I", false)
def tyX1 : Nat → FieldType := fun k => match k with
  | 0 => .object "LoopScheduler$Loop"
  | 1 => .array .int
  | 2 => .array (.array .int)
  | 3 => .array .int
  | _ => .int
abbrev wsX10 : List Cond := u_ws RX1 TX1 5
theorem nmX1 : ∀ a, a < 5 → ∀ b, b < 5 → a ≠ b → (TX1 a).2.1 ≠ (TX1 b).2.1 := by decide +kernel
theorem tyX1_ok : ∀ k, k < 5 → parseFieldDescriptor (TX1 k).2.2.1 = some (tyX1 k) := by decide +kernel
abbrev cX1_init : ByteArray := prog_3_method_1_code
def yX1_init : MethodName := ⟨RX1, "<init>", "(LLoopScheduler$Loop;)V"⟩
abbrev cX1_drop : ByteArray := prog_3_method_2_code
def yX1_drop : MethodName := ⟨RX1, "drop", "()V"⟩
abbrev cX1_attempt : ByteArray := prog_3_method_3_code
def yX1_attempt : MethodName := ⟨RX1, "attempt", "(I)Z"⟩
abbrev cX1_highestUnplaced : ByteArray := prog_3_method_4_code
def yX1_highestUnplaced : MethodName := ⟨RX1, "highestUnplaced", "()I"⟩
abbrev cX1_placeAtFirst : ByteArray := prog_3_method_5_code
def yX1_placeAtFirst : MethodName := ⟨RX1, "placeAtFirst", "(I)Z"⟩
abbrev cX1_earliestAllowed : ByteArray := prog_3_method_6_code
def yX1_earliestAllowed : MethodName := ⟨RX1, "earliestAllowed", "(I)I"⟩
abbrev cX1_latestAllowed : ByteArray := prog_3_method_7_code
def yX1_latestAllowed : MethodName := ⟨RX1, "latestAllowed", "(I)I"⟩
abbrev cX1_hasUnits : ByteArray := prog_3_method_8_code
def yX1_hasUnits : MethodName := ⟨RX1, "hasUnits", "(II)Z"⟩
abbrev cX1_place : ByteArray := prog_3_method_9_code
def yX1_place : MethodName := ⟨RX1, "place", "(II)V"⟩
abbrev cX1_lift : ByteArray := prog_3_method_10_code
def yX1_lift : MethodName := ⟨RX1, "lift", "(I)V"⟩
abbrev cX1_changeTaken : ByteArray := prog_3_method_11_code
def yX1_changeTaken : MethodName := ⟨RX1, "changeTaken", "(III)V"⟩
abbrev cX1_replace : ByteArray := prog_3_method_12_code
def yX1_replace : MethodName := ⟨RX1, "replace", "(II)Z"⟩
abbrev cX1_countPlaces : ByteArray := prog_3_method_13_code
def yX1_countPlaces : MethodName := ⟨RX1, "countPlaces", "(I)I"⟩
abbrev cX1_greatestTime : ByteArray := prog_3_method_14_code
def yX1_greatestTime : MethodName := ⟨RX1, "greatestTime", "()I"⟩
abbrev cX1_countStages : ByteArray := prog_3_method_15_code
def yX1_countStages : MethodName := ⟨RX1, "countStages", "()I"⟩
abbrev cX1_stageOf : ByteArray := prog_3_method_16_code
def yX1_stageOf : MethodName := ⟨RX1, "stageOf", "(I)I"⟩
abbrev cX1_findLifetimes : ByteArray := prog_3_method_17_code
def yX1_findLifetimes : MethodName := ⟨RX1, "findLifetimes", "()V"⟩
abbrev cX1_countLive : ByteArray := prog_3_method_18_code
def yX1_countLive : MethodName := ⟨RX1, "countLive", "(I)I"⟩
abbrev cX1_countCopies : ByteArray := prog_3_method_19_code
def yX1_countCopies : MethodName := ⟨RX1, "countCopies", "(I)I"⟩
def RX2 : String := "LoopScheduler"
def TX2 : u_T := fun k => match k with
  | 0 => ("LoopScheduler", "loop", "LLoopScheduler$Loop;", true)
  | 1 => ("LoopScheduler", "table", "LLoopScheduler$Timetable;", true)
  | _ => ("LoopScheduler", "attemptCount", "I", false)
def tyX2 : Nat → FieldType := fun k => match k with
  | 0 => .object "LoopScheduler$Loop"
  | 1 => .object "LoopScheduler$Timetable"
  | _ => .int
abbrev wsX20 : List Cond := u_ws RX2 TX2 3
theorem nmX2 : ∀ a, a < 3 → ∀ b, b < 3 → a ≠ b → (TX2 a).2.1 ≠ (TX2 b).2.1 := by decide +kernel
theorem tyX2_ok : ∀ k, k < 3 → parseFieldDescriptor (TX2 k).2.2.1 = some (tyX2 k) := by decide +kernel
abbrev cX2_init : ByteArray := prog_1_method_1_code
def yX2_init : MethodName := ⟨RX2, "<init>", "()V"⟩
abbrev cX2_setUnits : ByteArray := prog_1_method_2_code
def yX2_setUnits : MethodName := ⟨RX2, "setUnits", "(II)I"⟩
abbrev cX2_addOperation : ByteArray := prog_1_method_3_code
def yX2_addOperation : MethodName := ⟨RX2, "addOperation", "(II)I"⟩
abbrev cX2_addDependence : ByteArray := prog_1_method_4_code
def yX2_addDependence : MethodName := ⟨RX2, "addDependence", "(IIII)I"⟩
abbrev cX2_setDelay : ByteArray := prog_1_method_5_code
def yX2_setDelay : MethodName := ⟨RX2, "setDelay", "(II)I"⟩
abbrev cX2_operationCount : ByteArray := prog_1_method_6_code
def yX2_operationCount : MethodName := ⟨RX2, "operationCount", "()I"⟩
abbrev cX2_dependenceCount : ByteArray := prog_1_method_7_code
def yX2_dependenceCount : MethodName := ⟨RX2, "dependenceCount", "()I"⟩
abbrev cX2_resourceBound : ByteArray := prog_1_method_8_code
def yX2_resourceBound : MethodName := ⟨RX2, "resourceBound", "()I"⟩
abbrev cX2_recurrenceBound : ByteArray := prog_1_method_9_code
def yX2_recurrenceBound : MethodName := ⟨RX2, "recurrenceBound", "()I"⟩
abbrev cX2_height : ByteArray := prog_1_method_10_code
def yX2_height : MethodName := ⟨RX2, "height", "(II)I"⟩
abbrev cX2_schedule : ByteArray := prog_1_method_11_code
def yX2_schedule : MethodName := ⟨RX2, "schedule", "(I)I"⟩
abbrev cX2_attempts : ByteArray := prog_1_method_12_code
def yX2_attempts : MethodName := ⟨RX2, "attempts", "()I"⟩
abbrev cX2_hasSchedule : ByteArray := prog_1_method_13_code
def yX2_hasSchedule : MethodName := ⟨RX2, "hasSchedule", "()Z"⟩
abbrev cX2_interval : ByteArray := prog_1_method_14_code
def yX2_interval : MethodName := ⟨RX2, "interval", "()I"⟩
abbrev cX2_time : ByteArray := prog_1_method_15_code
def yX2_time : MethodName := ⟨RX2, "time", "(I)I"⟩
abbrev cX2_move : ByteArray := prog_1_method_16_code
def yX2_move : MethodName := ⟨RX2, "move", "(II)Z"⟩
abbrev cX2_freedom : ByteArray := prog_1_method_17_code
def yX2_freedom : MethodName := ⟨RX2, "freedom", "(I)I"⟩
abbrev cX2_stages : ByteArray := prog_1_method_18_code
def yX2_stages : MethodName := ⟨RX2, "stages", "()I"⟩
abbrev cX2_taken : ByteArray := prog_1_method_19_code
def yX2_taken : MethodName := ⟨RX2, "taken", "(II)I"⟩
abbrev cX2_lifetime : ByteArray := prog_1_method_20_code
def yX2_lifetime : MethodName := ⟨RX2, "lifetime", "(I)I"⟩
abbrev cX2_live : ByteArray := prog_1_method_21_code
def yX2_live : MethodName := ⟨RX2, "live", "(I)I"⟩
abbrev cX2_registers : ByteArray := prog_1_method_22_code
def yX2_registers : MethodName := ⟨RX2, "registers", "()I"⟩
abbrev cX2_copies : ByteArray := prog_1_method_23_code
def yX2_copies : MethodName := ⟨RX2, "copies", "(I)I"⟩
abbrev cX2_unrolling : ByteArray := prog_1_method_24_code
def yX2_unrolling : MethodName := ⟨RX2, "unrolling", "()I"⟩
abbrev cX2_cycles : ByteArray := prog_1_method_25_code
def yX2_cycles : MethodName := ⟨RX2, "cycles", "(I)I"⟩
abbrev cX2_issued : ByteArray := prog_1_method_26_code
def yX2_issued : MethodName := ⟨RX2, "issued", "(II)I"⟩
abbrev cX2_issue : ByteArray := prog_1_method_27_code
def yX2_issue : MethodName := ⟨RX2, "issue", "(III)I"⟩
abbrev cX2_prologue : ByteArray := prog_1_method_28_code
def yX2_prologue : MethodName := ⟨RX2, "prologue", "()I"⟩
abbrev cX2_epilogue : ByteArray := prog_1_method_29_code
def yX2_epilogue : MethodName := ⟨RX2, "epilogue", "()I"⟩
abbrev cX2_digest : ByteArray := prog_1_method_30_code
def yX2_digest : MethodName := ⟨RX2, "digest", "()J"⟩
abbrev cX2_digestWith : ByteArray := prog_1_method_31_code
def yX2_digestWith : MethodName := ⟨RX2, "digestWith", "(JI)J"⟩
abbrev cX2_isIssued : ByteArray := prog_1_method_32_code
def yX2_isIssued : MethodName := ⟨RX2, "isIssued", "(III)Z"⟩
abbrev cX2_issueNumber : ByteArray := prog_1_method_33_code
def yX2_issueNumber : MethodName := ⟨RX2, "issueNumber", "(II)I"⟩
abbrev cX2_countIssuedBefore : ByteArray := prog_1_method_34_code
def yX2_countIssuedBefore : MethodName := ⟨RX2, "countIssuedBefore", "(III)I"⟩
abbrev cX2_leastCommonMultiple : ByteArray := prog_1_method_35_code
def yX2_leastCommonMultiple : MethodName := ⟨RX2, "leastCommonMultiple", "(JI)J"⟩
abbrev cX2_isKind : ByteArray := prog_1_method_36_code
def yX2_isKind : MethodName := ⟨RX2, "isKind", "(I)Z"⟩
abbrev cX2_requireKind : ByteArray := prog_1_method_37_code
def yX2_requireKind : MethodName := ⟨RX2, "requireKind", "(I)V"⟩
abbrev cX2_requireDelay : ByteArray := prog_1_method_38_code
def yX2_requireDelay : MethodName := ⟨RX2, "requireDelay", "(I)V"⟩
abbrev cX2_requireIterations : ByteArray := prog_1_method_39_code
def yX2_requireIterations : MethodName := ⟨RX2, "requireIterations", "(I)V"⟩
abbrev cX2_requireCycle : ByteArray := prog_1_method_40_code
def yX2_requireCycle : MethodName := ⟨RX2, "requireCycle", "(I)V"⟩
abbrev cX2_requireOperation : ByteArray := prog_1_method_41_code
def yX2_requireOperation : MethodName := ⟨RX2, "requireOperation", "(I)V"⟩
abbrev cX2_requireSchedule : ByteArray := prog_1_method_42_code
def yX2_requireSchedule : MethodName := ⟨RX2, "requireSchedule", "()V"⟩
abbrev cX2_requireRow : ByteArray := prog_1_method_43_code
def yX2_requireRow : MethodName := ⟨RX2, "requireRow", "(I)V"⟩
def RX3 : String := "LoopSchedulerModel"
def TX3 : u_T := fun k => match k with
  | 0 => ("LoopSchedulerModel", "thrown", "I", false)
  | 1 => ("LoopSchedulerModel", "units", "[I", true)
  | 2 => ("LoopSchedulerModel", "operations", "I", false)
  | 3 => ("LoopSchedulerModel", "kinds", "[I", true)
  | 4 => ("LoopSchedulerModel", "busy", "[I", true)
  | 5 => ("LoopSchedulerModel", "dependences", "I", false)
  | 6 => ("LoopSchedulerModel", "froms", "[I", true)
  | 7 => ("LoopSchedulerModel", "tos", "[I", true)
  | 8 => ("LoopSchedulerModel", "delays", "[I", true)
  | 9 => ("LoopSchedulerModel", "distances", "[I", true)
  | 10 => ("LoopSchedulerModel", "interval", "I", false)
  | 11 => ("LoopSchedulerModel", "times", "[I", true)
  | 12 => ("LoopSchedulerModel", "attempts", "I", false)
  | 13 => ("LoopSchedulerModel", "heights", "[I", true)
  | 14 => ("LoopSchedulerModel", "isPlaced", "[Z", true)
  | _ => ("LoopSchedulerModel", "counts", "[I", true)
def tyX3 : Nat → FieldType := fun k => match k with
  | 0 => .int
  | 1 => .array .int
  | 2 => .int
  | 3 => .array .int
  | 4 => .array .int
  | 5 => .int
  | 6 => .array .int
  | 7 => .array .int
  | 8 => .array .int
  | 9 => .array .int
  | 10 => .int
  | 11 => .array .int
  | 12 => .int
  | 13 => .array .int
  | 14 => .array .boolean
  | _ => .array .int
abbrev wsX30 : List Cond := u_ws RX3 TX3 16
theorem nmX3 : ∀ a, a < 16 → ∀ b, b < 16 → a ≠ b → (TX3 a).2.1 ≠ (TX3 b).2.1 := by decide +kernel
theorem tyX3_ok : ∀ k, k < 16 → parseFieldDescriptor (TX3 k).2.2.1 = some (tyX3 k) := by decide +kernel
abbrev cX3_init : ByteArray := prog_5_method_1_code
def yX3_init : MethodName := ⟨RX3, "<init>", "()V"⟩
abbrev cX3_thrown : ByteArray := prog_5_method_2_code
def yX3_thrown : MethodName := ⟨RX3, "thrown", "()I"⟩
abbrev cX3_no : ByteArray := prog_5_method_3_code
def yX3_no : MethodName := ⟨RX3, "no", "(I)I"⟩
abbrev cX3_isIn : ByteArray := prog_5_method_4_code
def yX3_isIn : MethodName := ⟨RX3, "isIn", "(III)Z"⟩
abbrev cX3_isOperation : ByteArray := prog_5_method_5_code
def yX3_isOperation : MethodName := ⟨RX3, "isOperation", "(I)Z"⟩
abbrev cX3_setUnits : ByteArray := prog_5_method_6_code
def yX3_setUnits : MethodName := ⟨RX3, "setUnits", "(II)I"⟩
abbrev cX3_addOperation : ByteArray := prog_5_method_7_code
def yX3_addOperation : MethodName := ⟨RX3, "addOperation", "(II)I"⟩
abbrev cX3_addDependence : ByteArray := prog_5_method_8_code
def yX3_addDependence : MethodName := ⟨RX3, "addDependence", "(IIII)I"⟩
abbrev cX3_setDelay : ByteArray := prog_5_method_9_code
def yX3_setDelay : MethodName := ⟨RX3, "setDelay", "(II)I"⟩
abbrev cX3_operationCount : ByteArray := prog_5_method_10_code
def yX3_operationCount : MethodName := ⟨RX3, "operationCount", "()I"⟩
abbrev cX3_dependenceCount : ByteArray := prog_5_method_11_code
def yX3_dependenceCount : MethodName := ⟨RX3, "dependenceCount", "()I"⟩
abbrev cX3_byResources : ByteArray := prog_5_method_12_code
def yX3_byResources : MethodName := ⟨RX3, "byResources", "()I"⟩
abbrev cX3_resourceBound : ByteArray := prog_5_method_13_code
def yX3_resourceBound : MethodName := ⟨RX3, "resourceBound", "()I"⟩
abbrev cX3_lengthOf : ByteArray := prog_5_method_14_code
def yX3_lengthOf : MethodName := ⟨RX3, "lengthOf", "(II)I"⟩
abbrev cX3_findHeights : ByteArray := prog_5_method_15_code
def yX3_findHeights : MethodName := ⟨RX3, "findHeights", "(I)Z"⟩
abbrev cX3_grow : ByteArray := prog_5_method_16_code
def yX3_grow : MethodName := ⟨RX3, "grow", "(I)Z"⟩
abbrev cX3_byRecurrences : ByteArray := prog_5_method_17_code
def yX3_byRecurrences : MethodName := ⟨RX3, "byRecurrences", "()I"⟩
abbrev cX3_recurrenceBound : ByteArray := prog_5_method_18_code
def yX3_recurrenceBound : MethodName := ⟨RX3, "recurrenceBound", "()I"⟩
abbrev cX3_height : ByteArray := prog_5_method_19_code
def yX3_height : MethodName := ⟨RX3, "height", "(II)I"⟩
abbrev cX3_takenIn : ByteArray := prog_5_method_20_code
def yX3_takenIn : MethodName := ⟨RX3, "takenIn", "(III)I"⟩
abbrev cX3_fits : ByteArray := prog_5_method_21_code
def yX3_fits : MethodName := ⟨RX3, "fits", "(I)Z"⟩
abbrev cX3_count : ByteArray := prog_5_method_22_code
def yX3_count : MethodName := ⟨RX3, "count", "(III)Z"⟩
abbrev cX3_attempt : ByteArray := prog_5_method_23_code
def yX3_attempt : MethodName := ⟨RX3, "attempt", "(I)Z"⟩
abbrev cX3_next : ByteArray := prog_5_method_24_code
def yX3_next : MethodName := ⟨RX3, "next", "()I"⟩
abbrev cX3_place : ByteArray := prog_5_method_25_code
def yX3_place : MethodName := ⟨RX3, "place", "(II)Z"⟩
abbrev cX3_schedule : ByteArray := prog_5_method_26_code
def yX3_schedule : MethodName := ⟨RX3, "schedule", "(I)I"⟩
abbrev cX3_attempts : ByteArray := prog_5_method_27_code
def yX3_attempts : MethodName := ⟨RX3, "attempts", "()I"⟩
abbrev cX3_hasSchedule : ByteArray := prog_5_method_28_code
def yX3_hasSchedule : MethodName := ⟨RX3, "hasSchedule", "()Z"⟩
abbrev cX3_has : ByteArray := prog_5_method_29_code
def yX3_has : MethodName := ⟨RX3, "has", "()Z"⟩
abbrev cX3_asks : ByteArray := prog_5_method_30_code
def yX3_asks : MethodName := ⟨RX3, "asks", "(I)Z"⟩
abbrev cX3_interval : ByteArray := prog_5_method_31_code
def yX3_interval : MethodName := ⟨RX3, "interval", "()I"⟩
abbrev cX3_time : ByteArray := prog_5_method_32_code
def yX3_time : MethodName := ⟨RX3, "time", "(I)I"⟩
abbrev cX3_isValid : ByteArray := prog_5_method_33_code
def yX3_isValid : MethodName := ⟨RX3, "isValid", "()Z"⟩
abbrev cX3_isValidWith : ByteArray := prog_5_method_34_code
def yX3_isValidWith : MethodName := ⟨RX3, "isValidWith", "(II)Z"⟩
abbrev cX3_move : ByteArray := prog_5_method_35_code
def yX3_move : MethodName := ⟨RX3, "move", "(II)Z"⟩
abbrev cX3_freedom : ByteArray := prog_5_method_36_code
def yX3_freedom : MethodName := ⟨RX3, "freedom", "(I)I"⟩
abbrev cX3_latest : ByteArray := prog_5_method_37_code
def yX3_latest : MethodName := ⟨RX3, "latest", "()I"⟩
abbrev cX3_stageCount : ByteArray := prog_5_method_38_code
def yX3_stageCount : MethodName := ⟨RX3, "stageCount", "()I"⟩
abbrev cX3_stages : ByteArray := prog_5_method_39_code
def yX3_stages : MethodName := ⟨RX3, "stages", "()I"⟩
abbrev cX3_taken : ByteArray := prog_5_method_40_code
def yX3_taken : MethodName := ⟨RX3, "taken", "(II)I"⟩
abbrev cX3_lifeOf : ByteArray := prog_5_method_41_code
def yX3_lifeOf : MethodName := ⟨RX3, "lifeOf", "(I)I"⟩
abbrev cX3_lifetime : ByteArray := prog_5_method_42_code
def yX3_lifetime : MethodName := ⟨RX3, "lifetime", "(I)I"⟩
abbrev cX3_liveIn : ByteArray := prog_5_method_43_code
def yX3_liveIn : MethodName := ⟨RX3, "liveIn", "(I)I"⟩
abbrev cX3_live : ByteArray := prog_5_method_44_code
def yX3_live : MethodName := ⟨RX3, "live", "(I)I"⟩
abbrev cX3_registers : ByteArray := prog_5_method_45_code
def yX3_registers : MethodName := ⟨RX3, "registers", "()I"⟩
abbrev cX3_copiesOf : ByteArray := prog_5_method_46_code
def yX3_copiesOf : MethodName := ⟨RX3, "copiesOf", "(I)I"⟩
abbrev cX3_copies : ByteArray := prog_5_method_47_code
def yX3_copies : MethodName := ⟨RX3, "copies", "(I)I"⟩
abbrev cX3_unrolling : ByteArray := prog_5_method_48_code
def yX3_unrolling : MethodName := ⟨RX3, "unrolling", "()I"⟩
abbrev cX3_cycles : ByteArray := prog_5_method_49_code
def yX3_cycles : MethodName := ⟨RX3, "cycles", "(I)I"⟩
abbrev cX3_issueAt : ByteArray := prog_5_method_50_code
def yX3_issueAt : MethodName := ⟨RX3, "issueAt", "(III)I"⟩
abbrev cX3_issuedIn : ByteArray := prog_5_method_51_code
def yX3_issuedIn : MethodName := ⟨RX3, "issuedIn", "(II)I"⟩
abbrev cX3_issued : ByteArray := prog_5_method_52_code
def yX3_issued : MethodName := ⟨RX3, "issued", "(II)I"⟩
abbrev cX3_issue : ByteArray := prog_5_method_53_code
def yX3_issue : MethodName := ⟨RX3, "issue", "(III)I"⟩
abbrev cX3_prologue : ByteArray := prog_5_method_54_code
def yX3_prologue : MethodName := ⟨RX3, "prologue", "()I"⟩
abbrev cX3_epilogue : ByteArray := prog_5_method_55_code
def yX3_epilogue : MethodName := ⟨RX3, "epilogue", "()I"⟩
abbrev cX3_digest : ByteArray := prog_5_method_56_code
def yX3_digest : MethodName := ⟨RX3, "digest", "()J"⟩
def RJx145de : String := "java/io/Serializable"
def TJx145de : u_T := fun k => match k with
  | _ => ("", "", "", false)
def tyJx145de : Nat → FieldType := fun k => match k with
  | _ => .int
abbrev wsJx145de0 : List Cond := u_ws RJx145de TJx145de 0
theorem nmJx145de : ∀ a, a < 0 → ∀ b, b < 0 → a ≠ b → (TJx145de a).2.1 ≠ (TJx145de b).2.1 := by decide +kernel
theorem tyJx145de_ok : ∀ k, k < 0 → parseFieldDescriptor (TJx145de k).2.2.1 = some (tyJx145de k) := by decide +kernel
def RJ9 : String := "java/lang/Math"
def TJ9 : u_T := fun k => match k with
  | _ => ("", "", "", false)
def tyJ9 : Nat → FieldType := fun k => match k with
  | _ => .int
abbrev wsJ90 : List Cond := u_ws RJ9 TJ9 0
theorem nmJ9 : ∀ a, a < 0 → ∀ b, b < 0 → a ≠ b → (TJ9 a).2.1 ≠ (TJ9 b).2.1 := by decide +kernel
theorem tyJ9_ok : ∀ k, k < 0 → parseFieldDescriptor (TJ9 k).2.2.1 = some (tyJ9 k) := by decide +kernel
abbrev cJ9_floorMod_7cf53 : ByteArray := prog_10_method_50_code
def yJ9_floorMod_7cf53 : MethodName := ⟨RJ9, "floorMod", "(II)I"⟩
abbrev cJ9_max_7cf53 : ByteArray := prog_10_method_65_code
def yJ9_max_7cf53 : MethodName := ⟨RJ9, "max", "(II)I"⟩
abbrev cJ9_min_7cf53 : ByteArray := prog_10_method_69_code
def yJ9_min_7cf53 : MethodName := ⟨RJ9, "min", "(II)I"⟩
def RJ0 : String := "java/lang/String"
def TJ0 : u_T := fun k => match k with
  | _ => ("", "", "", false)
def tyJ0 : Nat → FieldType := fun k => match k with
  | _ => .int
abbrev wsJ00 : List Cond := u_ws RJ0 TJ0 0
theorem nmJ0 : ∀ a, a < 0 → ∀ b, b < 0 → a ≠ b → (TJ0 a).2.1 ≠ (TJ0 b).2.1 := by decide +kernel
theorem tyJ0_ok : ∀ k, k < 0 → parseFieldDescriptor (TJ0 k).2.2.1 = some (tyJ0 k) := by decide +kernel
def RJ7 : String := "java/util/Arrays"
def TJ7 : u_T := fun k => match k with
  | _ => ("", "", "", false)
def tyJ7 : Nat → FieldType := fun k => match k with
  | _ => .int
abbrev wsJ70 : List Cond := u_ws RJ7 TJ7 0
theorem nmJ7 : ∀ a, a < 0 → ∀ b, b < 0 → a ≠ b → (TJ7 a).2.1 ≠ (TJ7 b).2.1 := by decide +kernel
theorem tyJ7_ok : ∀ k, k < 0 → parseFieldDescriptor (TJ7 k).2.2.1 = some (tyJ7 k) := by decide +kernel
abbrev cJ7_fill_53178 : ByteArray := prog_14_method_103_code
def yJ7_fill_53178 : MethodName := ⟨RJ7, "fill", "([II)V"⟩
def RL : String := "LoopSchedulerLaw"
abbrev cL_setUnits : ByteArray := method_3_code
def yL_setUnits : MethodName := ⟨RL, "setUnits", "(LLoopScheduler;II[J)I"⟩
abbrev cL_addOperation : ByteArray := method_4_code
def yL_addOperation : MethodName := ⟨RL, "addOperation", "(LLoopScheduler;II[J)I"⟩
abbrev cL_addDependence : ByteArray := method_5_code
def yL_addDependence : MethodName := ⟨RL, "addDependence", "(LLoopScheduler;IIII[J)I"⟩
abbrev cL_setDelay : ByteArray := method_6_code
def yL_setDelay : MethodName := ⟨RL, "setDelay", "(LLoopScheduler;II[J)I"⟩
abbrev cL_height : ByteArray := method_7_code
def yL_height : MethodName := ⟨RL, "height", "(LLoopScheduler;II[J)I"⟩
abbrev cL_schedule : ByteArray := method_8_code
def yL_schedule : MethodName := ⟨RL, "schedule", "(LLoopScheduler;I[J)I"⟩
abbrev cL_interval : ByteArray := method_9_code
def yL_interval : MethodName := ⟨RL, "interval", "(LLoopScheduler;[J)I"⟩
abbrev cL_time : ByteArray := method_10_code
def yL_time : MethodName := ⟨RL, "time", "(LLoopScheduler;I[J)I"⟩
abbrev cL_move : ByteArray := method_11_code
def yL_move : MethodName := ⟨RL, "move", "(LLoopScheduler;II[J)I"⟩
abbrev cL_freedom : ByteArray := method_12_code
def yL_freedom : MethodName := ⟨RL, "freedom", "(LLoopScheduler;I[J)I"⟩
abbrev cL_stages : ByteArray := method_13_code
def yL_stages : MethodName := ⟨RL, "stages", "(LLoopScheduler;[J)I"⟩
abbrev cL_taken : ByteArray := method_14_code
def yL_taken : MethodName := ⟨RL, "taken", "(LLoopScheduler;II[J)I"⟩
abbrev cL_lifetime : ByteArray := method_15_code
def yL_lifetime : MethodName := ⟨RL, "lifetime", "(LLoopScheduler;I[J)I"⟩
abbrev cL_live : ByteArray := method_16_code
def yL_live : MethodName := ⟨RL, "live", "(LLoopScheduler;I[J)I"⟩
abbrev cL_registers : ByteArray := method_17_code
def yL_registers : MethodName := ⟨RL, "registers", "(LLoopScheduler;[J)I"⟩
abbrev cL_copies : ByteArray := method_18_code
def yL_copies : MethodName := ⟨RL, "copies", "(LLoopScheduler;I[J)I"⟩
abbrev cL_unrolling : ByteArray := method_19_code
def yL_unrolling : MethodName := ⟨RL, "unrolling", "(LLoopScheduler;[J)I"⟩
abbrev cL_cycles : ByteArray := method_20_code
def yL_cycles : MethodName := ⟨RL, "cycles", "(LLoopScheduler;I[J)I"⟩
abbrev cL_issued : ByteArray := method_21_code
def yL_issued : MethodName := ⟨RL, "issued", "(LLoopScheduler;II[J)I"⟩
abbrev cL_issue : ByteArray := method_22_code
def yL_issue : MethodName := ⟨RL, "issue", "(LLoopScheduler;III[J)I"⟩
abbrev cL_prologue : ByteArray := method_23_code
def yL_prologue : MethodName := ⟨RL, "prologue", "(LLoopScheduler;[J)I"⟩
abbrev cL_epilogue : ByteArray := method_24_code
def yL_epilogue : MethodName := ⟨RL, "epilogue", "(LLoopScheduler;[J)I"⟩
abbrev cL_law : ByteArray := code
def yL_law : MethodName := ⟨RL, "law", "([I)Z"⟩
def wsX0_init : List Cond := .code yX0_init cX0_init 2 none :: ([.methodLink RX0 3 objectInit, .instanceMethod objectInit, .code objectInit ⟨#[0xb1]⟩ 1 none, .arrayClass .int, .fieldLink RX0 9 "LoopScheduler$Loop" "units" "[I", .fieldLink RX0 15 "LoopScheduler$Loop" "kinds" "[I", .fieldLink RX0 18 "LoopScheduler$Loop" "busy" "[I", .fieldLink RX0 21 "LoopScheduler$Loop" "sources" "[I", .fieldLink RX0 24 "LoopScheduler$Loop" "targets" "[I", .fieldLink RX0 27 "LoopScheduler$Loop" "delays" "[I", .fieldLink RX0 30 "LoopScheduler$Loop" "distances" "[I", .fieldLink RX0 33 "LoopScheduler$Loop" "heights" "[I"] ++ wsX00)
def wsX0_appendOperation : List Cond := .code yX0_appendOperation cX0_appendOperation 3 (some .int) :: ([.fieldLink RX0 15 "LoopScheduler$Loop" "kinds" "[I", .fieldLink RX0 36 "LoopScheduler$Loop" "operations" "I", .fieldLink RX0 18 "LoopScheduler$Loop" "busy" "[I"] ++ wsX00)
def wsX0_appendDependence : List Cond := .code yX0_appendDependence cX0_appendDependence 5 (some .int) :: ([.fieldLink RX0 21 "LoopScheduler$Loop" "sources" "[I", .fieldLink RX0 40 "LoopScheduler$Loop" "dependences" "I", .fieldLink RX0 24 "LoopScheduler$Loop" "targets" "[I", .fieldLink RX0 27 "LoopScheduler$Loop" "delays" "[I", .fieldLink RX0 30 "LoopScheduler$Loop" "distances" "[I"] ++ wsX00)
def wsX0_busyCycles : List Cond := .code yX0_busyCycles cX0_busyCycles 4 (some .int) :: ([.fieldLink RX0 36 "LoopScheduler$Loop" "operations" "I", .fieldLink RX0 15 "LoopScheduler$Loop" "kinds" "[I", .fieldLink RX0 18 "LoopScheduler$Loop" "busy" "[I"] ++ wsX00)
def wsX0_leastIntervalOfResources : List Cond := .code yX0_leastIntervalOfResources cX0_leastIntervalOfResources 3 (some .int) :: ([.fieldLink RX0 9 "LoopScheduler$Loop" "units" "[I", .methodLink RX0 47 Lib.Math.max.name, .static Lib.Math.max.name, .initialized "java/lang/Math", .code Lib.Math.max.name Lib.Math.max.code 2 (some .int), .methodLink RX0 43 yX0_busyCycles, .instanceMethod yX0_busyCycles, .selects RX0 yX0_busyCycles yX0_busyCycles, .initialized RX0, .code yX0_busyCycles cX0_busyCycles 4 (some .int), .fieldLink RX0 36 "LoopScheduler$Loop" "operations" "I", .fieldLink RX0 15 "LoopScheduler$Loop" "kinds" "[I", .fieldLink RX0 18 "LoopScheduler$Loop" "busy" "[I"] ++ wsX00)
def wsJ7_fill_53178 : List Cond := .code yJ7_fill_53178 cJ7_fill_53178 4 none :: ([])
def wsX0_raiseHeights : List Cond := .code yX0_raiseHeights cX0_raiseHeights 5 (some .boolean) :: ([.fieldLink RX0 40 "LoopScheduler$Loop" "dependences" "I", .fieldLink RX0 33 "LoopScheduler$Loop" "heights" "[I", .fieldLink RX0 24 "LoopScheduler$Loop" "targets" "[I", .fieldLink RX0 27 "LoopScheduler$Loop" "delays" "[I", .fieldLink RX0 30 "LoopScheduler$Loop" "distances" "[I", .fieldLink RX0 21 "LoopScheduler$Loop" "sources" "[I"] ++ wsX00)
def wsX0_findHeights : List Cond := .code yX0_findHeights cX0_findHeights 3 (some .boolean) :: ([.fieldLink RX0 33 "LoopScheduler$Loop" "heights" "[I", .fieldLink RX0 36 "LoopScheduler$Loop" "operations" "I", .methodLink RX0 57 yJ7_fill_53178, .static yJ7_fill_53178, .initialized RJ7, .code yJ7_fill_53178 cJ7_fill_53178 4 none, .methodLink RX0 63 yX0_raiseHeights, .instanceMethod yX0_raiseHeights, .selects RX0 yX0_raiseHeights yX0_raiseHeights, .initialized RX0, .code yX0_raiseHeights cX0_raiseHeights 5 (some .boolean), .fieldLink RX0 40 "LoopScheduler$Loop" "dependences" "I", .fieldLink RX0 24 "LoopScheduler$Loop" "targets" "[I", .fieldLink RX0 27 "LoopScheduler$Loop" "delays" "[I", .fieldLink RX0 30 "LoopScheduler$Loop" "distances" "[I", .fieldLink RX0 21 "LoopScheduler$Loop" "sources" "[I"] ++ wsX00)
def wsX0_leastIntervalOfRecurrences : List Cond := .code yX0_leastIntervalOfRecurrences cX0_leastIntervalOfRecurrences 3 (some .int) :: ([.methodLink RX0 53 yX0_findHeights, .instanceMethod yX0_findHeights, .selects RX0 yX0_findHeights yX0_findHeights, .initialized RX0, .code yX0_findHeights cX0_findHeights 3 (some .boolean), .fieldLink RX0 33 "LoopScheduler$Loop" "heights" "[I", .fieldLink RX0 36 "LoopScheduler$Loop" "operations" "I", .methodLink RX0 57 yJ7_fill_53178, .static yJ7_fill_53178, .initialized RJ7, .code yJ7_fill_53178 cJ7_fill_53178 4 none, .methodLink RX0 63 yX0_raiseHeights, .instanceMethod yX0_raiseHeights, .selects RX0 yX0_raiseHeights yX0_raiseHeights, .code yX0_raiseHeights cX0_raiseHeights 5 (some .boolean), .fieldLink RX0 40 "LoopScheduler$Loop" "dependences" "I", .fieldLink RX0 24 "LoopScheduler$Loop" "targets" "[I", .fieldLink RX0 27 "LoopScheduler$Loop" "delays" "[I", .fieldLink RX0 30 "LoopScheduler$Loop" "distances" "[I", .fieldLink RX0 21 "LoopScheduler$Loop" "sources" "[I"] ++ wsX00)
def wsX1_init : List Cond := .code yX1_init cX1_init 2 none :: ([.methodLink RX1 3 objectInit, .instanceMethod objectInit, .code objectInit ⟨#[0xb1]⟩ 1 none, .arrayClass .int, .fieldLink RX1 9 "LoopScheduler$Timetable" "times" "[I", .classLink RX1 15 "[[I", .fieldLink RX1 17 "LoopScheduler$Timetable" "takenUnits" "[[I", .fieldLink RX1 20 "LoopScheduler$Timetable" "lifetimes" "[I", .fieldLink RX1 23 "LoopScheduler$Timetable" "loop" "LLoopScheduler$Loop;"] ++ wsX10)
def wsX1_drop : List Cond := .code yX1_drop cX1_drop 1 none :: ([.fieldLink RX1 27 "LoopScheduler$Timetable" "interval" "I"] ++ wsX10)
def wsX1_highestUnplaced : List Cond := .code yX1_highestUnplaced cX1_highestUnplaced 3 (some .int) :: ([.fieldLink RX1 23 "LoopScheduler$Timetable" "loop" "LLoopScheduler$Loop;", .fieldLink RX1 43 "LoopScheduler$Loop" "operations" "I", .fieldLink RX1 9 "LoopScheduler$Timetable" "times" "[I", .fieldLink RX1 56 "LoopScheduler$Loop" "heights" "[I"] ++ wsX10 ++ wsX00)
def wsX1_earliestAllowed : List Cond := .code yX1_earliestAllowed cX1_earliestAllowed 5 (some .int) :: ([.fieldLink RX1 23 "LoopScheduler$Timetable" "loop" "LLoopScheduler$Loop;", .fieldLink RX1 80 "LoopScheduler$Loop" "dependences" "I", .fieldLink RX1 83 "LoopScheduler$Loop" "sources" "[I", .fieldLink RX1 86 "LoopScheduler$Loop" "targets" "[I", .fieldLink RX1 9 "LoopScheduler$Timetable" "times" "[I", .fieldLink RX1 89 "LoopScheduler$Loop" "delays" "[I", .fieldLink RX1 27 "LoopScheduler$Timetable" "interval" "I", .fieldLink RX1 92 "LoopScheduler$Loop" "distances" "[I", .methodLink RX1 95 Lib.Math.max.name, .static Lib.Math.max.name, .initialized "java/lang/Math", .code Lib.Math.max.name Lib.Math.max.code 2 (some .int)] ++ wsX10 ++ wsX00)
def wsX1_latestAllowed : List Cond := .code yX1_latestAllowed cX1_latestAllowed 5 (some .int) :: ([.constant RX1 100 (2147483647), .fieldLink RX1 23 "LoopScheduler$Timetable" "loop" "LLoopScheduler$Loop;", .fieldLink RX1 80 "LoopScheduler$Loop" "dependences" "I", .fieldLink RX1 86 "LoopScheduler$Loop" "targets" "[I", .fieldLink RX1 83 "LoopScheduler$Loop" "sources" "[I", .fieldLink RX1 9 "LoopScheduler$Timetable" "times" "[I", .fieldLink RX1 89 "LoopScheduler$Loop" "delays" "[I", .fieldLink RX1 27 "LoopScheduler$Timetable" "interval" "I", .fieldLink RX1 92 "LoopScheduler$Loop" "distances" "[I", .methodLink RX1 66 Lib.Math.min.name, .static Lib.Math.min.name, .initialized "java/lang/Math", .code Lib.Math.min.name Lib.Math.min.code 2 (some .int)] ++ wsX10 ++ wsX00)
def wsX1_hasUnits : List Cond := .code yX1_hasUnits cX1_hasUnits 6 (some .boolean) :: ([.fieldLink RX1 23 "LoopScheduler$Timetable" "loop" "LLoopScheduler$Loop;", .fieldLink RX1 101 "LoopScheduler$Loop" "kinds" "[I", .fieldLink RX1 104 "LoopScheduler$Loop" "busy" "[I", .fieldLink RX1 17 "LoopScheduler$Timetable" "takenUnits" "[[I", .fieldLink RX1 27 "LoopScheduler$Timetable" "interval" "I", .fieldLink RX1 107 "LoopScheduler$Loop" "units" "[I"] ++ wsX10 ++ wsX00)
def wsX1_changeTaken : List Cond := .code yX1_changeTaken cX1_changeTaken 6 none :: ([.fieldLink RX1 23 "LoopScheduler$Timetable" "loop" "LLoopScheduler$Loop;", .fieldLink RX1 101 "LoopScheduler$Loop" "kinds" "[I", .fieldLink RX1 104 "LoopScheduler$Loop" "busy" "[I", .fieldLink RX1 17 "LoopScheduler$Timetable" "takenUnits" "[[I", .fieldLink RX1 27 "LoopScheduler$Timetable" "interval" "I"] ++ wsX10 ++ wsX00)
def wsX1_place : List Cond := .code yX1_place cX1_place 3 none :: ([.fieldLink RX1 9 "LoopScheduler$Timetable" "times" "[I", .methodLink RX1 110 yX1_changeTaken, .instanceMethod yX1_changeTaken, .selects RX1 yX1_changeTaken yX1_changeTaken, .initialized RX1, .code yX1_changeTaken cX1_changeTaken 6 none, .fieldLink RX1 23 "LoopScheduler$Timetable" "loop" "LLoopScheduler$Loop;", .fieldLink RX1 101 "LoopScheduler$Loop" "kinds" "[I", .fieldLink RX1 104 "LoopScheduler$Loop" "busy" "[I", .fieldLink RX1 17 "LoopScheduler$Timetable" "takenUnits" "[[I", .fieldLink RX1 27 "LoopScheduler$Timetable" "interval" "I"] ++ wsX10 ++ wsX00)
def wsX1_placeAtFirst_r1 : List Cond := [Cond.fieldLink RX1 27 "LoopScheduler$Timetable" "interval" "I", Cond.methodLink RX1 66 Lib.Math.min.name, Cond.static Lib.Math.min.name, Cond.initialized "java/lang/Math", Cond.code Lib.Math.min.name Lib.Math.min.code 2 (some .int), Cond.methodLink RX1 59 yX1_earliestAllowed, Cond.instanceMethod yX1_earliestAllowed, Cond.selects RX1 yX1_earliestAllowed yX1_earliestAllowed, Cond.initialized RX1, Cond.code yX1_earliestAllowed cX1_earliestAllowed 5 (some .int), Cond.fieldLink RX1 23 "LoopScheduler$Timetable" "loop" "LLoopScheduler$Loop;", Cond.fieldLink RX1 80 "LoopScheduler$Loop" "dependences" "I", Cond.fieldLink RX1 83 "LoopScheduler$Loop" "sources" "[I", Cond.fieldLink RX1 86 "LoopScheduler$Loop" "targets" "[I", Cond.fieldLink RX1 9 "LoopScheduler$Timetable" "times" "[I", Cond.fieldLink RX1 89 "LoopScheduler$Loop" "delays" "[I", Cond.fieldLink RX1 92 "LoopScheduler$Loop" "distances" "[I", Cond.methodLink RX1 95 Lib.Math.max.name, Cond.static Lib.Math.max.name, Cond.code Lib.Math.max.name Lib.Math.max.code 2 (some .int), Cond.methodLink RX1 63 yX1_latestAllowed, Cond.instanceMethod yX1_latestAllowed, Cond.selects RX1 yX1_latestAllowed yX1_latestAllowed, Cond.code yX1_latestAllowed cX1_latestAllowed 5 (some .int)]
def wsX1_placeAtFirst_r2 : List Cond := [Cond.constant RX1 100 (2147483647), Cond.methodLink RX1 72 yX1_hasUnits, Cond.instanceMethod yX1_hasUnits, Cond.selects RX1 yX1_hasUnits yX1_hasUnits, Cond.code yX1_hasUnits cX1_hasUnits 6 (some .boolean), Cond.fieldLink RX1 101 "LoopScheduler$Loop" "kinds" "[I", Cond.fieldLink RX1 104 "LoopScheduler$Loop" "busy" "[I", Cond.fieldLink RX1 17 "LoopScheduler$Timetable" "takenUnits" "[[I", Cond.fieldLink RX1 107 "LoopScheduler$Loop" "units" "[I", Cond.methodLink RX1 76 yX1_place, Cond.instanceMethod yX1_place, Cond.selects RX1 yX1_place yX1_place, Cond.code yX1_place cX1_place 3 none, Cond.methodLink RX1 110 yX1_changeTaken, Cond.instanceMethod yX1_changeTaken, Cond.selects RX1 yX1_changeTaken yX1_changeTaken, Cond.code yX1_changeTaken cX1_changeTaken 6 none]
def wsX1_placeAtFirst : List Cond := .code yX1_placeAtFirst cX1_placeAtFirst 5 (some .boolean) :: ((wsX1_placeAtFirst_r1 ++ wsX1_placeAtFirst_r2) ++ wsX10 ++ wsX00)
def wsX1_attempt_r1 : List Cond := [Cond.fieldLink RX1 27 "LoopScheduler$Timetable" "interval" "I", Cond.fieldLink RX1 23 "LoopScheduler$Timetable" "loop" "LLoopScheduler$Loop;", Cond.fieldLink RX1 9 "LoopScheduler$Timetable" "times" "[I", Cond.fieldLink RX1 17 "LoopScheduler$Timetable" "takenUnits" "[[I", Cond.fieldLink RX1 43 "LoopScheduler$Loop" "operations" "I", Cond.methodLink RX1 31 yX0_findHeights, Cond.instanceMethod yX0_findHeights, Cond.selects RX0 yX0_findHeights yX0_findHeights, Cond.initialized RX0, Cond.code yX0_findHeights cX0_findHeights 3 (some .boolean), Cond.fieldLink RX0 33 "LoopScheduler$Loop" "heights" "[I", Cond.fieldLink RX0 36 "LoopScheduler$Loop" "operations" "I", Cond.methodLink RX0 57 yJ7_fill_53178, Cond.static yJ7_fill_53178, Cond.initialized RJ7, Cond.code yJ7_fill_53178 cJ7_fill_53178 4 none, Cond.methodLink RX0 63 yX0_raiseHeights, Cond.instanceMethod yX0_raiseHeights, Cond.selects RX0 yX0_raiseHeights yX0_raiseHeights, Cond.code yX0_raiseHeights cX0_raiseHeights 5 (some .boolean), Cond.fieldLink RX0 40 "LoopScheduler$Loop" "dependences" "I", Cond.fieldLink RX0 24 "LoopScheduler$Loop" "targets" "[I", Cond.fieldLink RX0 27 "LoopScheduler$Loop" "delays" "[I", Cond.fieldLink RX0 30 "LoopScheduler$Loop" "distances" "[I"]
def wsX1_attempt_r2 : List Cond := [Cond.fieldLink RX0 21 "LoopScheduler$Loop" "sources" "[I", Cond.methodLink RX1 37 yJ7_fill_53178, Cond.methodLink RX1 46 yX1_highestUnplaced, Cond.instanceMethod yX1_highestUnplaced, Cond.selects RX1 yX1_highestUnplaced yX1_highestUnplaced, Cond.initialized RX1, Cond.code yX1_highestUnplaced cX1_highestUnplaced 3 (some .int), Cond.fieldLink RX1 56 "LoopScheduler$Loop" "heights" "[I", Cond.methodLink RX1 50 yX1_placeAtFirst, Cond.instanceMethod yX1_placeAtFirst, Cond.selects RX1 yX1_placeAtFirst yX1_placeAtFirst, Cond.code yX1_placeAtFirst cX1_placeAtFirst 5 (some .boolean), Cond.methodLink RX1 66 Lib.Math.min.name, Cond.static Lib.Math.min.name, Cond.initialized "java/lang/Math", Cond.code Lib.Math.min.name Lib.Math.min.code 2 (some .int), Cond.methodLink RX1 59 yX1_earliestAllowed, Cond.instanceMethod yX1_earliestAllowed, Cond.selects RX1 yX1_earliestAllowed yX1_earliestAllowed, Cond.code yX1_earliestAllowed cX1_earliestAllowed 5 (some .int), Cond.fieldLink RX1 80 "LoopScheduler$Loop" "dependences" "I", Cond.fieldLink RX1 83 "LoopScheduler$Loop" "sources" "[I", Cond.fieldLink RX1 86 "LoopScheduler$Loop" "targets" "[I", Cond.fieldLink RX1 89 "LoopScheduler$Loop" "delays" "[I"]
def wsX1_attempt_r3 : List Cond := [Cond.fieldLink RX1 92 "LoopScheduler$Loop" "distances" "[I", Cond.methodLink RX1 95 Lib.Math.max.name, Cond.static Lib.Math.max.name, Cond.code Lib.Math.max.name Lib.Math.max.code 2 (some .int), Cond.methodLink RX1 63 yX1_latestAllowed, Cond.instanceMethod yX1_latestAllowed, Cond.selects RX1 yX1_latestAllowed yX1_latestAllowed, Cond.code yX1_latestAllowed cX1_latestAllowed 5 (some .int), Cond.constant RX1 100 (2147483647), Cond.methodLink RX1 72 yX1_hasUnits, Cond.instanceMethod yX1_hasUnits, Cond.selects RX1 yX1_hasUnits yX1_hasUnits, Cond.code yX1_hasUnits cX1_hasUnits 6 (some .boolean), Cond.fieldLink RX1 101 "LoopScheduler$Loop" "kinds" "[I", Cond.fieldLink RX1 104 "LoopScheduler$Loop" "busy" "[I", Cond.fieldLink RX1 107 "LoopScheduler$Loop" "units" "[I", Cond.methodLink RX1 76 yX1_place, Cond.instanceMethod yX1_place, Cond.selects RX1 yX1_place yX1_place, Cond.code yX1_place cX1_place 3 none, Cond.methodLink RX1 110 yX1_changeTaken, Cond.instanceMethod yX1_changeTaken, Cond.selects RX1 yX1_changeTaken yX1_changeTaken, Cond.code yX1_changeTaken cX1_changeTaken 6 none]
def wsX1_attempt_r4 : List Cond := [Cond.methodLink RX1 53 yX1_drop, Cond.instanceMethod yX1_drop, Cond.selects RX1 yX1_drop yX1_drop, Cond.code yX1_drop cX1_drop 1 none]
def wsX1_attempt : List Cond := .code yX1_attempt cX1_attempt 4 (some .boolean) :: ((wsX1_attempt_r1 ++ (wsX1_attempt_r2 ++ (wsX1_attempt_r3 ++ wsX1_attempt_r4))) ++ wsX10 ++ wsX00)
def wsX1_lift : List Cond := .code yX1_lift cX1_lift 2 none :: ([.fieldLink RX1 9 "LoopScheduler$Timetable" "times" "[I", .methodLink RX1 110 yX1_changeTaken, .instanceMethod yX1_changeTaken, .selects RX1 yX1_changeTaken yX1_changeTaken, .initialized RX1, .code yX1_changeTaken cX1_changeTaken 6 none, .fieldLink RX1 23 "LoopScheduler$Timetable" "loop" "LLoopScheduler$Loop;", .fieldLink RX1 101 "LoopScheduler$Loop" "kinds" "[I", .fieldLink RX1 104 "LoopScheduler$Loop" "busy" "[I", .fieldLink RX1 17 "LoopScheduler$Timetable" "takenUnits" "[[I", .fieldLink RX1 27 "LoopScheduler$Timetable" "interval" "I"] ++ wsX10 ++ wsX00)
def wsX1_replace_r1 : List Cond := [Cond.fieldLink RX1 9 "LoopScheduler$Timetable" "times" "[I", Cond.methodLink RX1 114 yX1_lift, Cond.instanceMethod yX1_lift, Cond.selects RX1 yX1_lift yX1_lift, Cond.initialized RX1, Cond.code yX1_lift cX1_lift 2 none, Cond.methodLink RX1 110 yX1_changeTaken, Cond.instanceMethod yX1_changeTaken, Cond.selects RX1 yX1_changeTaken yX1_changeTaken, Cond.code yX1_changeTaken cX1_changeTaken 6 none, Cond.fieldLink RX1 23 "LoopScheduler$Timetable" "loop" "LLoopScheduler$Loop;", Cond.fieldLink RX1 101 "LoopScheduler$Loop" "kinds" "[I", Cond.fieldLink RX1 104 "LoopScheduler$Loop" "busy" "[I", Cond.fieldLink RX1 17 "LoopScheduler$Timetable" "takenUnits" "[[I", Cond.fieldLink RX1 27 "LoopScheduler$Timetable" "interval" "I", Cond.methodLink RX1 59 yX1_earliestAllowed, Cond.instanceMethod yX1_earliestAllowed, Cond.selects RX1 yX1_earliestAllowed yX1_earliestAllowed, Cond.code yX1_earliestAllowed cX1_earliestAllowed 5 (some .int), Cond.fieldLink RX1 80 "LoopScheduler$Loop" "dependences" "I", Cond.fieldLink RX1 83 "LoopScheduler$Loop" "sources" "[I", Cond.fieldLink RX1 86 "LoopScheduler$Loop" "targets" "[I", Cond.fieldLink RX1 89 "LoopScheduler$Loop" "delays" "[I", Cond.fieldLink RX1 92 "LoopScheduler$Loop" "distances" "[I"]
def wsX1_replace_r2 : List Cond := [Cond.methodLink RX1 95 Lib.Math.max.name, Cond.static Lib.Math.max.name, Cond.initialized "java/lang/Math", Cond.code Lib.Math.max.name Lib.Math.max.code 2 (some .int), Cond.methodLink RX1 63 yX1_latestAllowed, Cond.instanceMethod yX1_latestAllowed, Cond.selects RX1 yX1_latestAllowed yX1_latestAllowed, Cond.code yX1_latestAllowed cX1_latestAllowed 5 (some .int), Cond.constant RX1 100 (2147483647), Cond.methodLink RX1 66 Lib.Math.min.name, Cond.static Lib.Math.min.name, Cond.code Lib.Math.min.name Lib.Math.min.code 2 (some .int), Cond.methodLink RX1 72 yX1_hasUnits, Cond.instanceMethod yX1_hasUnits, Cond.selects RX1 yX1_hasUnits yX1_hasUnits, Cond.code yX1_hasUnits cX1_hasUnits 6 (some .boolean), Cond.fieldLink RX1 107 "LoopScheduler$Loop" "units" "[I", Cond.methodLink RX1 76 yX1_place, Cond.instanceMethod yX1_place, Cond.selects RX1 yX1_place yX1_place, Cond.code yX1_place cX1_place 3 none]
def wsX1_replace : List Cond := .code yX1_replace cX1_replace 5 (some .boolean) :: ((wsX1_replace_r1 ++ wsX1_replace_r2) ++ wsX10 ++ wsX00)
def wsX1_countPlaces_r1 : List Cond := [Cond.fieldLink RX1 9 "LoopScheduler$Timetable" "times" "[I", Cond.methodLink RX1 66 Lib.Math.min.name, Cond.static Lib.Math.min.name, Cond.initialized "java/lang/Math", Cond.code Lib.Math.min.name Lib.Math.min.code 2 (some .int), Cond.methodLink RX1 114 yX1_lift, Cond.instanceMethod yX1_lift, Cond.selects RX1 yX1_lift yX1_lift, Cond.initialized RX1, Cond.code yX1_lift cX1_lift 2 none, Cond.methodLink RX1 110 yX1_changeTaken, Cond.instanceMethod yX1_changeTaken, Cond.selects RX1 yX1_changeTaken yX1_changeTaken, Cond.code yX1_changeTaken cX1_changeTaken 6 none, Cond.fieldLink RX1 23 "LoopScheduler$Timetable" "loop" "LLoopScheduler$Loop;", Cond.fieldLink RX1 101 "LoopScheduler$Loop" "kinds" "[I", Cond.fieldLink RX1 104 "LoopScheduler$Loop" "busy" "[I", Cond.fieldLink RX1 17 "LoopScheduler$Timetable" "takenUnits" "[[I", Cond.fieldLink RX1 27 "LoopScheduler$Timetable" "interval" "I", Cond.methodLink RX1 63 yX1_latestAllowed, Cond.instanceMethod yX1_latestAllowed, Cond.selects RX1 yX1_latestAllowed yX1_latestAllowed, Cond.code yX1_latestAllowed cX1_latestAllowed 5 (some .int), Cond.constant RX1 100 (2147483647)]
def wsX1_countPlaces_r2 : List Cond := [Cond.fieldLink RX1 80 "LoopScheduler$Loop" "dependences" "I", Cond.fieldLink RX1 86 "LoopScheduler$Loop" "targets" "[I", Cond.fieldLink RX1 83 "LoopScheduler$Loop" "sources" "[I", Cond.fieldLink RX1 89 "LoopScheduler$Loop" "delays" "[I", Cond.fieldLink RX1 92 "LoopScheduler$Loop" "distances" "[I", Cond.methodLink RX1 59 yX1_earliestAllowed, Cond.instanceMethod yX1_earliestAllowed, Cond.selects RX1 yX1_earliestAllowed yX1_earliestAllowed, Cond.code yX1_earliestAllowed cX1_earliestAllowed 5 (some .int), Cond.methodLink RX1 95 Lib.Math.max.name, Cond.static Lib.Math.max.name, Cond.code Lib.Math.max.name Lib.Math.max.code 2 (some .int), Cond.methodLink RX1 72 yX1_hasUnits, Cond.instanceMethod yX1_hasUnits, Cond.selects RX1 yX1_hasUnits yX1_hasUnits, Cond.code yX1_hasUnits cX1_hasUnits 6 (some .boolean), Cond.fieldLink RX1 107 "LoopScheduler$Loop" "units" "[I", Cond.methodLink RX1 76 yX1_place, Cond.instanceMethod yX1_place, Cond.selects RX1 yX1_place yX1_place, Cond.code yX1_place cX1_place 3 none]
def wsX1_countPlaces : List Cond := .code yX1_countPlaces cX1_countPlaces 6 (some .int) :: ((wsX1_countPlaces_r1 ++ wsX1_countPlaces_r2) ++ wsX10 ++ wsX00)
def wsX1_greatestTime : List Cond := .code yX1_greatestTime cX1_greatestTime 3 (some .int) :: ([.fieldLink RX1 23 "LoopScheduler$Timetable" "loop" "LLoopScheduler$Loop;", .fieldLink RX1 43 "LoopScheduler$Loop" "operations" "I", .fieldLink RX1 9 "LoopScheduler$Timetable" "times" "[I", .methodLink RX1 95 Lib.Math.max.name, .static Lib.Math.max.name, .initialized "java/lang/Math", .code Lib.Math.max.name Lib.Math.max.code 2 (some .int)] ++ wsX10 ++ wsX00)
def wsX1_countStages : List Cond := .code yX1_countStages cX1_countStages 1 (some .int) :: ([.fieldLink RX1 23 "LoopScheduler$Timetable" "loop" "LLoopScheduler$Loop;", .fieldLink RX1 43 "LoopScheduler$Loop" "operations" "I", .fieldLink RX1 27 "LoopScheduler$Timetable" "interval" "I", .methodLink RX1 118 yX1_greatestTime, .instanceMethod yX1_greatestTime, .selects RX1 yX1_greatestTime yX1_greatestTime, .initialized RX1, .code yX1_greatestTime cX1_greatestTime 3 (some .int), .fieldLink RX1 9 "LoopScheduler$Timetable" "times" "[I", .methodLink RX1 95 Lib.Math.max.name, .static Lib.Math.max.name, .initialized "java/lang/Math", .code Lib.Math.max.name Lib.Math.max.code 2 (some .int)] ++ wsX10 ++ wsX00)
def wsX1_stageOf : List Cond := .code yX1_stageOf cX1_stageOf 2 (some .int) :: ([.fieldLink RX1 9 "LoopScheduler$Timetable" "times" "[I", .fieldLink RX1 27 "LoopScheduler$Timetable" "interval" "I"] ++ wsX10)
def wsX1_findLifetimes : List Cond := .code yX1_findLifetimes cX1_findLifetimes 4 none :: ([.fieldLink RX1 20 "LoopScheduler$Timetable" "lifetimes" "[I", .fieldLink RX1 23 "LoopScheduler$Timetable" "loop" "LLoopScheduler$Loop;", .fieldLink RX1 80 "LoopScheduler$Loop" "dependences" "I", .fieldLink RX1 83 "LoopScheduler$Loop" "sources" "[I", .fieldLink RX1 9 "LoopScheduler$Timetable" "times" "[I", .fieldLink RX1 86 "LoopScheduler$Loop" "targets" "[I", .fieldLink RX1 27 "LoopScheduler$Timetable" "interval" "I", .fieldLink RX1 92 "LoopScheduler$Loop" "distances" "[I", .methodLink RX1 95 Lib.Math.max.name, .static Lib.Math.max.name, .initialized "java/lang/Math", .code Lib.Math.max.name Lib.Math.max.code 2 (some .int), .methodLink RX1 37 yJ7_fill_53178, .static yJ7_fill_53178, .initialized RJ7, .code yJ7_fill_53178 cJ7_fill_53178 4 none] ++ wsX10 ++ wsX00)
def wsJ9_floorMod_7cf53 : List Cond := .code yJ9_floorMod_7cf53 cJ9_floorMod_7cf53 3 (some .int) :: ([])
def wsX1_countLive : List Cond := .code yX1_countLive cX1_countLive 5 (some .int) :: ([.fieldLink RX1 23 "LoopScheduler$Timetable" "loop" "LLoopScheduler$Loop;", .fieldLink RX1 43 "LoopScheduler$Loop" "operations" "I", .fieldLink RX1 9 "LoopScheduler$Timetable" "times" "[I", .fieldLink RX1 27 "LoopScheduler$Timetable" "interval" "I", .fieldLink RX1 20 "LoopScheduler$Timetable" "lifetimes" "[I", .methodLink RX1 121 yJ9_floorMod_7cf53, .static yJ9_floorMod_7cf53, .initialized RJ9, .code yJ9_floorMod_7cf53 cJ9_floorMod_7cf53 3 (some .int)] ++ wsX10 ++ wsX00)
def wsX1_countCopies : List Cond := .code yX1_countCopies cX1_countCopies 2 (some .int) :: ([.fieldLink RX1 20 "LoopScheduler$Timetable" "lifetimes" "[I", .fieldLink RX1 27 "LoopScheduler$Timetable" "interval" "I", .methodLink RX1 95 Lib.Math.max.name, .static Lib.Math.max.name, .initialized "java/lang/Math", .code Lib.Math.max.name Lib.Math.max.code 2 (some .int)] ++ wsX10)
def wsX2_init_r1 : List Cond := [Cond.methodLink RX2 1 objectInit, Cond.instanceMethod objectInit, Cond.code objectInit ⟨#[0xb1]⟩ 1 none, Cond.classLink RX2 7 RX0, Cond.instantiable RX0 10, Cond.initialized RX0, Cond.fieldLink RX2 10 "LoopScheduler" "loop" "LLoopScheduler$Loop;", Cond.classLink RX2 16 RX1, Cond.instantiable RX1 5, Cond.initialized RX1, Cond.fieldLink RX2 21 "LoopScheduler" "table" "LLoopScheduler$Timetable;", Cond.methodLink RX2 9 yX0_init, Cond.instanceMethod yX0_init, Cond.code yX0_init cX0_init 2 none, Cond.methodLink RX0 3 objectInit, Cond.arrayClass .int, Cond.fieldLink RX0 9 "LoopScheduler$Loop" "units" "[I", Cond.fieldLink RX0 15 "LoopScheduler$Loop" "kinds" "[I", Cond.fieldLink RX0 18 "LoopScheduler$Loop" "busy" "[I", Cond.fieldLink RX0 21 "LoopScheduler$Loop" "sources" "[I", Cond.fieldLink RX0 24 "LoopScheduler$Loop" "targets" "[I", Cond.fieldLink RX0 27 "LoopScheduler$Loop" "delays" "[I", Cond.fieldLink RX0 30 "LoopScheduler$Loop" "distances" "[I", Cond.fieldLink RX0 33 "LoopScheduler$Loop" "heights" "[I"]
def wsX2_init_r2 : List Cond := [Cond.methodLink RX2 18 yX1_init, Cond.instanceMethod yX1_init, Cond.code yX1_init cX1_init 2 none, Cond.methodLink RX1 3 objectInit, Cond.fieldLink RX1 9 "LoopScheduler$Timetable" "times" "[I", Cond.classLink RX1 15 "[[I", Cond.fieldLink RX1 17 "LoopScheduler$Timetable" "takenUnits" "[[I", Cond.fieldLink RX1 20 "LoopScheduler$Timetable" "lifetimes" "[I", Cond.fieldLink RX1 23 "LoopScheduler$Timetable" "loop" "LLoopScheduler$Loop;"]
def wsX2_init : List Cond := .code yX2_init cX2_init 1 none :: ((wsX2_init_r1 ++ wsX2_init_r2) ++ wsX00 ++ wsX20 ++ wsX10)
def wsX2_isKind : List Cond := .code yX2_isKind cX2_isKind 1 (some .boolean) :: ([])
def wsX2_requireKind : List Cond := .code yX2_requireKind cX2_requireKind 1 none :: ([.classLink RX2 81 "java/lang/IndexOutOfBoundsException", .initialized "java/lang/IndexOutOfBoundsException", .methodLink RX2 43 yX2_isKind, .static yX2_isKind, .initialized RX2, .code yX2_isKind cX2_isKind 1 (some .boolean)] ++ (vx_atS RX2 85 "java/lang/IndexOutOfBoundsException" ["java/lang/RuntimeException", "java/lang/Exception"]).filter goodWord)
def wsX2_setUnits : List Cond := .code yX2_setUnits cX2_setUnits 4 (some .int) :: ([.classLink RX2 29 "java/lang/IllegalArgumentException", .initialized "java/lang/IllegalArgumentException", .fieldLink RX2 10 "LoopScheduler" "loop" "LLoopScheduler$Loop;", .fieldLink RX2 36 "LoopScheduler$Loop" "units" "[I", .fieldLink RX2 21 "LoopScheduler" "table" "LLoopScheduler$Timetable;", .methodLink RX2 25 yX2_requireKind, .static yX2_requireKind, .initialized RX2, .code yX2_requireKind cX2_requireKind 1 none, .classLink RX2 81 "java/lang/IndexOutOfBoundsException", .initialized "java/lang/IndexOutOfBoundsException", .methodLink RX2 43 yX2_isKind, .static yX2_isKind, .code yX2_isKind cX2_isKind 1 (some .boolean), .methodLink RX2 40 yX1_drop, .instanceMethod yX1_drop, .selects RX1 yX1_drop yX1_drop, .initialized RX1, .code yX1_drop cX1_drop 1 none, .fieldLink RX1 27 "LoopScheduler$Timetable" "interval" "I"] ++ wsX20 ++ wsX00 ++ wsX10 ++ (vx_atS RX2 33 "java/lang/IllegalArgumentException" ["java/lang/RuntimeException", "java/lang/Exception"]).filter goodWord ++ (vx_atS RX2 85 "java/lang/IndexOutOfBoundsException" ["java/lang/RuntimeException", "java/lang/Exception"]).filter goodWord)
def wsX2_addOperation_r1 : List Cond := [Cond.classLink RX2 29 "java/lang/IllegalArgumentException", Cond.initialized "java/lang/IllegalArgumentException", Cond.classLink RX2 55 "java/lang/IllegalStateException", Cond.initialized "java/lang/IllegalStateException", Cond.fieldLink RX2 10 "LoopScheduler" "loop" "LLoopScheduler$Loop;", Cond.fieldLink RX2 51 "LoopScheduler$Loop" "operations" "I", Cond.fieldLink RX2 21 "LoopScheduler" "table" "LLoopScheduler$Timetable;", Cond.methodLink RX2 43 yX2_isKind, Cond.static yX2_isKind, Cond.initialized RX2, Cond.code yX2_isKind cX2_isKind 1 (some .boolean), Cond.methodLink RX2 40 yX1_drop, Cond.instanceMethod yX1_drop, Cond.selects RX1 yX1_drop yX1_drop, Cond.initialized RX1, Cond.code yX1_drop cX1_drop 1 none, Cond.fieldLink RX1 27 "LoopScheduler$Timetable" "interval" "I", Cond.methodLink RX2 60 yX0_appendOperation, Cond.instanceMethod yX0_appendOperation, Cond.selects RX0 yX0_appendOperation yX0_appendOperation, Cond.initialized RX0, Cond.code yX0_appendOperation cX0_appendOperation 3 (some .int), Cond.fieldLink RX0 15 "LoopScheduler$Loop" "kinds" "[I", Cond.fieldLink RX0 36 "LoopScheduler$Loop" "operations" "I"]
def wsX2_addOperation_r2 : List Cond := [Cond.fieldLink RX0 18 "LoopScheduler$Loop" "busy" "[I"]
def wsX2_addOperation : List Cond := .code yX2_addOperation cX2_addOperation 3 (some .int) :: ((wsX2_addOperation_r1 ++ wsX2_addOperation_r2) ++ wsX20 ++ wsX00 ++ wsX10 ++ (vx_atS RX2 33 "java/lang/IllegalArgumentException" ["java/lang/RuntimeException", "java/lang/Exception"]).filter goodWord ++ (vx_atS RX2 59 "java/lang/IllegalStateException" ["java/lang/RuntimeException", "java/lang/Exception"]).filter goodWord)
def wsX2_requireOperation : List Cond := .code yX2_requireOperation cX2_requireOperation 2 none :: ([.classLink RX2 81 "java/lang/IndexOutOfBoundsException", .initialized "java/lang/IndexOutOfBoundsException", .fieldLink RX2 10 "LoopScheduler" "loop" "LLoopScheduler$Loop;", .fieldLink RX2 51 "LoopScheduler$Loop" "operations" "I"] ++ wsX20 ++ wsX00 ++ (vx_atS RX2 85 "java/lang/IndexOutOfBoundsException" ["java/lang/RuntimeException", "java/lang/Exception"]).filter goodWord)
def wsX2_requireDelay : List Cond := .code yX2_requireDelay cX2_requireDelay 1 none :: ([.classLink RX2 29 "java/lang/IllegalArgumentException", .initialized "java/lang/IllegalArgumentException"] ++ (vx_atS RX2 33 "java/lang/IllegalArgumentException" ["java/lang/RuntimeException", "java/lang/Exception"]).filter goodWord)
def wsX2_addDependence_r1 : List Cond := [Cond.classLink RX2 29 "java/lang/IllegalArgumentException", Cond.initialized "java/lang/IllegalArgumentException", Cond.classLink RX2 55 "java/lang/IllegalStateException", Cond.initialized "java/lang/IllegalStateException", Cond.fieldLink RX2 10 "LoopScheduler" "loop" "LLoopScheduler$Loop;", Cond.fieldLink RX2 72 "LoopScheduler$Loop" "dependences" "I", Cond.fieldLink RX2 21 "LoopScheduler" "table" "LLoopScheduler$Timetable;", Cond.methodLink RX2 64 yX2_requireOperation, Cond.instanceMethod yX2_requireOperation, Cond.selects RX2 yX2_requireOperation yX2_requireOperation, Cond.initialized RX2, Cond.code yX2_requireOperation cX2_requireOperation 2 none, Cond.classLink RX2 81 "java/lang/IndexOutOfBoundsException", Cond.initialized "java/lang/IndexOutOfBoundsException", Cond.fieldLink RX2 51 "LoopScheduler$Loop" "operations" "I", Cond.methodLink RX2 67 yX2_requireDelay, Cond.static yX2_requireDelay, Cond.code yX2_requireDelay cX2_requireDelay 1 none, Cond.methodLink RX2 40 yX1_drop, Cond.instanceMethod yX1_drop, Cond.selects RX1 yX1_drop yX1_drop, Cond.initialized RX1, Cond.code yX1_drop cX1_drop 1 none, Cond.fieldLink RX1 27 "LoopScheduler$Timetable" "interval" "I"]
def wsX2_addDependence_r2 : List Cond := [Cond.methodLink RX2 77 yX0_appendDependence, Cond.instanceMethod yX0_appendDependence, Cond.selects RX0 yX0_appendDependence yX0_appendDependence, Cond.initialized RX0, Cond.code yX0_appendDependence cX0_appendDependence 5 (some .int), Cond.fieldLink RX0 21 "LoopScheduler$Loop" "sources" "[I", Cond.fieldLink RX0 40 "LoopScheduler$Loop" "dependences" "I", Cond.fieldLink RX0 24 "LoopScheduler$Loop" "targets" "[I", Cond.fieldLink RX0 27 "LoopScheduler$Loop" "delays" "[I", Cond.fieldLink RX0 30 "LoopScheduler$Loop" "distances" "[I"]
def wsX2_addDependence : List Cond := .code yX2_addDependence cX2_addDependence 5 (some .int) :: ((wsX2_addDependence_r1 ++ wsX2_addDependence_r2) ++ wsX20 ++ wsX00 ++ wsX10 ++ (vx_atS RX2 33 "java/lang/IllegalArgumentException" ["java/lang/RuntimeException", "java/lang/Exception"]).filter goodWord ++ (vx_atS RX2 59 "java/lang/IllegalStateException" ["java/lang/RuntimeException", "java/lang/Exception"]).filter goodWord ++ (vx_atS RX2 85 "java/lang/IndexOutOfBoundsException" ["java/lang/RuntimeException", "java/lang/Exception"]).filter goodWord)
def wsX2_setDelay : List Cond := .code yX2_setDelay cX2_setDelay 4 (some .int) :: ([.classLink RX2 81 "java/lang/IndexOutOfBoundsException", .initialized "java/lang/IndexOutOfBoundsException", .fieldLink RX2 10 "LoopScheduler" "loop" "LLoopScheduler$Loop;", .fieldLink RX2 72 "LoopScheduler$Loop" "dependences" "I", .fieldLink RX2 86 "LoopScheduler$Loop" "delays" "[I", .fieldLink RX2 21 "LoopScheduler" "table" "LLoopScheduler$Timetable;", .methodLink RX2 67 yX2_requireDelay, .static yX2_requireDelay, .initialized RX2, .code yX2_requireDelay cX2_requireDelay 1 none, .classLink RX2 29 "java/lang/IllegalArgumentException", .initialized "java/lang/IllegalArgumentException", .methodLink RX2 40 yX1_drop, .instanceMethod yX1_drop, .selects RX1 yX1_drop yX1_drop, .initialized RX1, .code yX1_drop cX1_drop 1 none, .fieldLink RX1 27 "LoopScheduler$Timetable" "interval" "I"] ++ wsX20 ++ wsX00 ++ wsX10 ++ (vx_atS RX2 85 "java/lang/IndexOutOfBoundsException" ["java/lang/RuntimeException", "java/lang/Exception"]).filter goodWord ++ (vx_atS RX2 33 "java/lang/IllegalArgumentException" ["java/lang/RuntimeException", "java/lang/Exception"]).filter goodWord)
def wsX2_operationCount : List Cond := .code yX2_operationCount cX2_operationCount 1 (some .int) :: ([.fieldLink RX2 10 "LoopScheduler" "loop" "LLoopScheduler$Loop;", .fieldLink RX2 51 "LoopScheduler$Loop" "operations" "I"] ++ wsX20 ++ wsX00)
def wsX2_dependenceCount : List Cond := .code yX2_dependenceCount cX2_dependenceCount 1 (some .int) :: ([.fieldLink RX2 10 "LoopScheduler" "loop" "LLoopScheduler$Loop;", .fieldLink RX2 72 "LoopScheduler$Loop" "dependences" "I"] ++ wsX20 ++ wsX00)
def wsX2_resourceBound : List Cond := .code yX2_resourceBound cX2_resourceBound 1 (some .int) :: ([.fieldLink RX2 10 "LoopScheduler" "loop" "LLoopScheduler$Loop;", .methodLink RX2 89 yX0_leastIntervalOfResources, .instanceMethod yX0_leastIntervalOfResources, .selects RX0 yX0_leastIntervalOfResources yX0_leastIntervalOfResources, .initialized RX0, .code yX0_leastIntervalOfResources cX0_leastIntervalOfResources 3 (some .int), .fieldLink RX0 9 "LoopScheduler$Loop" "units" "[I", .methodLink RX0 47 Lib.Math.max.name, .static Lib.Math.max.name, .initialized "java/lang/Math", .code Lib.Math.max.name Lib.Math.max.code 2 (some .int), .methodLink RX0 43 yX0_busyCycles, .instanceMethod yX0_busyCycles, .selects RX0 yX0_busyCycles yX0_busyCycles, .code yX0_busyCycles cX0_busyCycles 4 (some .int), .fieldLink RX0 36 "LoopScheduler$Loop" "operations" "I", .fieldLink RX0 15 "LoopScheduler$Loop" "kinds" "[I", .fieldLink RX0 18 "LoopScheduler$Loop" "busy" "[I"] ++ wsX20 ++ wsX00)
def wsX2_recurrenceBound_r1 : List Cond := [Cond.fieldLink RX2 10 "LoopScheduler" "loop" "LLoopScheduler$Loop;", Cond.methodLink RX2 93 yX0_leastIntervalOfRecurrences, Cond.instanceMethod yX0_leastIntervalOfRecurrences, Cond.selects RX0 yX0_leastIntervalOfRecurrences yX0_leastIntervalOfRecurrences, Cond.initialized RX0, Cond.code yX0_leastIntervalOfRecurrences cX0_leastIntervalOfRecurrences 3 (some .int), Cond.methodLink RX0 53 yX0_findHeights, Cond.instanceMethod yX0_findHeights, Cond.selects RX0 yX0_findHeights yX0_findHeights, Cond.code yX0_findHeights cX0_findHeights 3 (some .boolean), Cond.fieldLink RX0 33 "LoopScheduler$Loop" "heights" "[I", Cond.fieldLink RX0 36 "LoopScheduler$Loop" "operations" "I", Cond.methodLink RX0 57 yJ7_fill_53178, Cond.static yJ7_fill_53178, Cond.initialized RJ7, Cond.code yJ7_fill_53178 cJ7_fill_53178 4 none, Cond.methodLink RX0 63 yX0_raiseHeights, Cond.instanceMethod yX0_raiseHeights, Cond.selects RX0 yX0_raiseHeights yX0_raiseHeights, Cond.code yX0_raiseHeights cX0_raiseHeights 5 (some .boolean), Cond.fieldLink RX0 40 "LoopScheduler$Loop" "dependences" "I", Cond.fieldLink RX0 24 "LoopScheduler$Loop" "targets" "[I", Cond.fieldLink RX0 27 "LoopScheduler$Loop" "delays" "[I", Cond.fieldLink RX0 30 "LoopScheduler$Loop" "distances" "[I"]
def wsX2_recurrenceBound_r2 : List Cond := [Cond.fieldLink RX0 21 "LoopScheduler$Loop" "sources" "[I"]
def wsX2_recurrenceBound : List Cond := .code yX2_recurrenceBound cX2_recurrenceBound 1 (some .int) :: ((wsX2_recurrenceBound_r1 ++ wsX2_recurrenceBound_r2) ++ wsX20 ++ wsX00)
def wsX2_height_r1 : List Cond := [Cond.classLink RX2 29 "java/lang/IllegalArgumentException", Cond.initialized "java/lang/IllegalArgumentException", Cond.fieldLink RX2 10 "LoopScheduler" "loop" "LLoopScheduler$Loop;", Cond.fieldLink RX2 101 "LoopScheduler$Loop" "heights" "[I", Cond.methodLink RX2 64 yX2_requireOperation, Cond.instanceMethod yX2_requireOperation, Cond.selects RX2 yX2_requireOperation yX2_requireOperation, Cond.initialized RX2, Cond.code yX2_requireOperation cX2_requireOperation 2 none, Cond.classLink RX2 81 "java/lang/IndexOutOfBoundsException", Cond.initialized "java/lang/IndexOutOfBoundsException", Cond.fieldLink RX2 51 "LoopScheduler$Loop" "operations" "I", Cond.methodLink RX2 93 yX0_leastIntervalOfRecurrences, Cond.instanceMethod yX0_leastIntervalOfRecurrences, Cond.selects RX0 yX0_leastIntervalOfRecurrences yX0_leastIntervalOfRecurrences, Cond.initialized RX0, Cond.code yX0_leastIntervalOfRecurrences cX0_leastIntervalOfRecurrences 3 (some .int), Cond.methodLink RX0 53 yX0_findHeights, Cond.instanceMethod yX0_findHeights, Cond.selects RX0 yX0_findHeights yX0_findHeights, Cond.code yX0_findHeights cX0_findHeights 3 (some .boolean), Cond.fieldLink RX0 33 "LoopScheduler$Loop" "heights" "[I", Cond.fieldLink RX0 36 "LoopScheduler$Loop" "operations" "I", Cond.methodLink RX0 57 yJ7_fill_53178]
def wsX2_height_r2 : List Cond := [Cond.static yJ7_fill_53178, Cond.initialized RJ7, Cond.code yJ7_fill_53178 cJ7_fill_53178 4 none, Cond.methodLink RX0 63 yX0_raiseHeights, Cond.instanceMethod yX0_raiseHeights, Cond.selects RX0 yX0_raiseHeights yX0_raiseHeights, Cond.code yX0_raiseHeights cX0_raiseHeights 5 (some .boolean), Cond.fieldLink RX0 40 "LoopScheduler$Loop" "dependences" "I", Cond.fieldLink RX0 24 "LoopScheduler$Loop" "targets" "[I", Cond.fieldLink RX0 27 "LoopScheduler$Loop" "delays" "[I", Cond.fieldLink RX0 30 "LoopScheduler$Loop" "distances" "[I", Cond.fieldLink RX0 21 "LoopScheduler$Loop" "sources" "[I", Cond.methodLink RX2 98 yX0_findHeights]
def wsX2_height : List Cond := .code yX2_height cX2_height 4 (some .int) :: ((wsX2_height_r1 ++ wsX2_height_r2) ++ wsX20 ++ wsX00 ++ (vx_atS RX2 33 "java/lang/IllegalArgumentException" ["java/lang/RuntimeException", "java/lang/Exception"]).filter goodWord ++ (vx_atS RX2 85 "java/lang/IndexOutOfBoundsException" ["java/lang/RuntimeException", "java/lang/Exception"]).filter goodWord)
def wsX2_schedule_r1 : List Cond := [Cond.classLink RX2 29 "java/lang/IllegalArgumentException", Cond.initialized "java/lang/IllegalArgumentException", Cond.fieldLink RX2 21 "LoopScheduler" "table" "LLoopScheduler$Timetable;", Cond.fieldLink RX2 106 "LoopScheduler" "attemptCount" "I", Cond.fieldLink RX2 10 "LoopScheduler" "loop" "LLoopScheduler$Loop;", Cond.methodLink RX2 109 Lib.Math.max.name, Cond.static Lib.Math.max.name, Cond.initialized "java/lang/Math", Cond.code Lib.Math.max.name Lib.Math.max.code 2 (some .int), Cond.methodLink RX2 40 yX1_drop, Cond.instanceMethod yX1_drop, Cond.selects RX1 yX1_drop yX1_drop, Cond.initialized RX1, Cond.code yX1_drop cX1_drop 1 none, Cond.fieldLink RX1 27 "LoopScheduler$Timetable" "interval" "I", Cond.methodLink RX2 93 yX0_leastIntervalOfRecurrences, Cond.instanceMethod yX0_leastIntervalOfRecurrences, Cond.selects RX0 yX0_leastIntervalOfRecurrences yX0_leastIntervalOfRecurrences, Cond.initialized RX0, Cond.code yX0_leastIntervalOfRecurrences cX0_leastIntervalOfRecurrences 3 (some .int), Cond.methodLink RX0 53 yX0_findHeights, Cond.instanceMethod yX0_findHeights, Cond.selects RX0 yX0_findHeights yX0_findHeights, Cond.code yX0_findHeights cX0_findHeights 3 (some .boolean)]
def wsX2_schedule_r2 : List Cond := [Cond.fieldLink RX0 33 "LoopScheduler$Loop" "heights" "[I", Cond.fieldLink RX0 36 "LoopScheduler$Loop" "operations" "I", Cond.methodLink RX0 57 yJ7_fill_53178, Cond.static yJ7_fill_53178, Cond.initialized RJ7, Cond.code yJ7_fill_53178 cJ7_fill_53178 4 none, Cond.methodLink RX0 63 yX0_raiseHeights, Cond.instanceMethod yX0_raiseHeights, Cond.selects RX0 yX0_raiseHeights yX0_raiseHeights, Cond.code yX0_raiseHeights cX0_raiseHeights 5 (some .boolean), Cond.fieldLink RX0 40 "LoopScheduler$Loop" "dependences" "I", Cond.fieldLink RX0 24 "LoopScheduler$Loop" "targets" "[I", Cond.fieldLink RX0 27 "LoopScheduler$Loop" "delays" "[I", Cond.fieldLink RX0 30 "LoopScheduler$Loop" "distances" "[I", Cond.fieldLink RX0 21 "LoopScheduler$Loop" "sources" "[I", Cond.methodLink RX2 89 yX0_leastIntervalOfResources, Cond.instanceMethod yX0_leastIntervalOfResources, Cond.selects RX0 yX0_leastIntervalOfResources yX0_leastIntervalOfResources, Cond.code yX0_leastIntervalOfResources cX0_leastIntervalOfResources 3 (some .int), Cond.fieldLink RX0 9 "LoopScheduler$Loop" "units" "[I", Cond.methodLink RX0 47 Lib.Math.max.name, Cond.methodLink RX0 43 yX0_busyCycles, Cond.instanceMethod yX0_busyCycles, Cond.selects RX0 yX0_busyCycles yX0_busyCycles]
def wsX2_schedule_r3 : List Cond := [Cond.code yX0_busyCycles cX0_busyCycles 4 (some .int), Cond.fieldLink RX0 15 "LoopScheduler$Loop" "kinds" "[I", Cond.fieldLink RX0 18 "LoopScheduler$Loop" "busy" "[I", Cond.methodLink RX2 114 yX1_attempt, Cond.instanceMethod yX1_attempt, Cond.selects RX1 yX1_attempt yX1_attempt, Cond.code yX1_attempt cX1_attempt 4 (some .boolean), Cond.fieldLink RX1 23 "LoopScheduler$Timetable" "loop" "LLoopScheduler$Loop;", Cond.fieldLink RX1 9 "LoopScheduler$Timetable" "times" "[I", Cond.fieldLink RX1 17 "LoopScheduler$Timetable" "takenUnits" "[[I", Cond.fieldLink RX1 43 "LoopScheduler$Loop" "operations" "I", Cond.methodLink RX1 31 yX0_findHeights, Cond.methodLink RX1 37 yJ7_fill_53178, Cond.methodLink RX1 46 yX1_highestUnplaced, Cond.instanceMethod yX1_highestUnplaced, Cond.selects RX1 yX1_highestUnplaced yX1_highestUnplaced, Cond.code yX1_highestUnplaced cX1_highestUnplaced 3 (some .int), Cond.fieldLink RX1 56 "LoopScheduler$Loop" "heights" "[I", Cond.methodLink RX1 50 yX1_placeAtFirst, Cond.instanceMethod yX1_placeAtFirst, Cond.selects RX1 yX1_placeAtFirst yX1_placeAtFirst, Cond.code yX1_placeAtFirst cX1_placeAtFirst 5 (some .boolean), Cond.methodLink RX1 66 Lib.Math.min.name, Cond.static Lib.Math.min.name]
def wsX2_schedule_r4 : List Cond := [Cond.code Lib.Math.min.name Lib.Math.min.code 2 (some .int), Cond.methodLink RX1 59 yX1_earliestAllowed, Cond.instanceMethod yX1_earliestAllowed, Cond.selects RX1 yX1_earliestAllowed yX1_earliestAllowed, Cond.code yX1_earliestAllowed cX1_earliestAllowed 5 (some .int), Cond.fieldLink RX1 80 "LoopScheduler$Loop" "dependences" "I", Cond.fieldLink RX1 83 "LoopScheduler$Loop" "sources" "[I", Cond.fieldLink RX1 86 "LoopScheduler$Loop" "targets" "[I", Cond.fieldLink RX1 89 "LoopScheduler$Loop" "delays" "[I", Cond.fieldLink RX1 92 "LoopScheduler$Loop" "distances" "[I", Cond.methodLink RX1 95 Lib.Math.max.name, Cond.methodLink RX1 63 yX1_latestAllowed, Cond.instanceMethod yX1_latestAllowed, Cond.selects RX1 yX1_latestAllowed yX1_latestAllowed, Cond.code yX1_latestAllowed cX1_latestAllowed 5 (some .int), Cond.constant RX1 100 (2147483647), Cond.methodLink RX1 72 yX1_hasUnits, Cond.instanceMethod yX1_hasUnits, Cond.selects RX1 yX1_hasUnits yX1_hasUnits, Cond.code yX1_hasUnits cX1_hasUnits 6 (some .boolean), Cond.fieldLink RX1 101 "LoopScheduler$Loop" "kinds" "[I", Cond.fieldLink RX1 104 "LoopScheduler$Loop" "busy" "[I", Cond.fieldLink RX1 107 "LoopScheduler$Loop" "units" "[I", Cond.methodLink RX1 76 yX1_place]
def wsX2_schedule_r5 : List Cond := [Cond.instanceMethod yX1_place, Cond.selects RX1 yX1_place yX1_place, Cond.code yX1_place cX1_place 3 none, Cond.methodLink RX1 110 yX1_changeTaken, Cond.instanceMethod yX1_changeTaken, Cond.selects RX1 yX1_changeTaken yX1_changeTaken, Cond.code yX1_changeTaken cX1_changeTaken 6 none, Cond.methodLink RX1 53 yX1_drop]
def wsX2_schedule : List Cond := .code yX2_schedule cX2_schedule 5 (some .int) :: ((wsX2_schedule_r1 ++ (wsX2_schedule_r2 ++ (wsX2_schedule_r3 ++ (wsX2_schedule_r4 ++ wsX2_schedule_r5)))) ++ wsX20 ++ wsX10 ++ wsX00 ++ (vx_atS RX2 33 "java/lang/IllegalArgumentException" ["java/lang/RuntimeException", "java/lang/Exception"]).filter goodWord)
def wsX2_attempts : List Cond := .code yX2_attempts cX2_attempts 1 (some .int) :: ([.fieldLink RX2 106 "LoopScheduler" "attemptCount" "I"] ++ wsX20)
def wsX2_hasSchedule : List Cond := .code yX2_hasSchedule cX2_hasSchedule 1 (some .boolean) :: ([.fieldLink RX2 21 "LoopScheduler" "table" "LLoopScheduler$Timetable;", .fieldLink RX2 117 "LoopScheduler$Timetable" "interval" "I"] ++ wsX20 ++ wsX10)
def wsX2_requireSchedule : List Cond := .code yX2_requireSchedule cX2_requireSchedule 1 none :: ([.classLink RX2 55 "java/lang/IllegalStateException", .initialized "java/lang/IllegalStateException", .fieldLink RX2 21 "LoopScheduler" "table" "LLoopScheduler$Timetable;", .fieldLink RX2 117 "LoopScheduler$Timetable" "interval" "I"] ++ wsX20 ++ wsX10 ++ (vx_atS RX2 59 "java/lang/IllegalStateException" ["java/lang/RuntimeException", "java/lang/Exception"]).filter goodWord)
def wsX2_interval : List Cond := .code yX2_interval cX2_interval 1 (some .int) :: ([.fieldLink RX2 21 "LoopScheduler" "table" "LLoopScheduler$Timetable;", .fieldLink RX2 117 "LoopScheduler$Timetable" "interval" "I", .methodLink RX2 120 yX2_requireSchedule, .instanceMethod yX2_requireSchedule, .selects RX2 yX2_requireSchedule yX2_requireSchedule, .initialized RX2, .code yX2_requireSchedule cX2_requireSchedule 1 none, .classLink RX2 55 "java/lang/IllegalStateException", .initialized "java/lang/IllegalStateException"] ++ wsX20 ++ wsX10 ++ (vx_atS RX2 59 "java/lang/IllegalStateException" ["java/lang/RuntimeException", "java/lang/Exception"]).filter goodWord)
def wsX2_time : List Cond := .code yX2_time cX2_time 2 (some .int) :: ([.fieldLink RX2 21 "LoopScheduler" "table" "LLoopScheduler$Timetable;", .fieldLink RX2 123 "LoopScheduler$Timetable" "times" "[I", .methodLink RX2 64 yX2_requireOperation, .instanceMethod yX2_requireOperation, .selects RX2 yX2_requireOperation yX2_requireOperation, .initialized RX2, .code yX2_requireOperation cX2_requireOperation 2 none, .classLink RX2 81 "java/lang/IndexOutOfBoundsException", .initialized "java/lang/IndexOutOfBoundsException", .fieldLink RX2 10 "LoopScheduler" "loop" "LLoopScheduler$Loop;", .fieldLink RX2 51 "LoopScheduler$Loop" "operations" "I", .methodLink RX2 120 yX2_requireSchedule, .instanceMethod yX2_requireSchedule, .selects RX2 yX2_requireSchedule yX2_requireSchedule, .code yX2_requireSchedule cX2_requireSchedule 1 none, .classLink RX2 55 "java/lang/IllegalStateException", .initialized "java/lang/IllegalStateException", .fieldLink RX2 117 "LoopScheduler$Timetable" "interval" "I"] ++ wsX20 ++ wsX10 ++ wsX00 ++ (vx_atS RX2 85 "java/lang/IndexOutOfBoundsException" ["java/lang/RuntimeException", "java/lang/Exception"]).filter goodWord ++ (vx_atS RX2 59 "java/lang/IllegalStateException" ["java/lang/RuntimeException", "java/lang/Exception"]).filter goodWord)
def wsX2_move_r1 : List Cond := [Cond.classLink RX2 29 "java/lang/IllegalArgumentException", Cond.initialized "java/lang/IllegalArgumentException", Cond.fieldLink RX2 21 "LoopScheduler" "table" "LLoopScheduler$Timetable;", Cond.methodLink RX2 64 yX2_requireOperation, Cond.instanceMethod yX2_requireOperation, Cond.selects RX2 yX2_requireOperation yX2_requireOperation, Cond.initialized RX2, Cond.code yX2_requireOperation cX2_requireOperation 2 none, Cond.classLink RX2 81 "java/lang/IndexOutOfBoundsException", Cond.initialized "java/lang/IndexOutOfBoundsException", Cond.fieldLink RX2 10 "LoopScheduler" "loop" "LLoopScheduler$Loop;", Cond.fieldLink RX2 51 "LoopScheduler$Loop" "operations" "I", Cond.methodLink RX2 120 yX2_requireSchedule, Cond.instanceMethod yX2_requireSchedule, Cond.selects RX2 yX2_requireSchedule yX2_requireSchedule, Cond.code yX2_requireSchedule cX2_requireSchedule 1 none, Cond.classLink RX2 55 "java/lang/IllegalStateException", Cond.initialized "java/lang/IllegalStateException", Cond.fieldLink RX2 117 "LoopScheduler$Timetable" "interval" "I", Cond.methodLink RX2 128 yX1_replace, Cond.instanceMethod yX1_replace, Cond.selects RX1 yX1_replace yX1_replace, Cond.initialized RX1, Cond.code yX1_replace cX1_replace 5 (some .boolean)]
def wsX2_move_r2 : List Cond := [Cond.fieldLink RX1 9 "LoopScheduler$Timetable" "times" "[I", Cond.methodLink RX1 114 yX1_lift, Cond.instanceMethod yX1_lift, Cond.selects RX1 yX1_lift yX1_lift, Cond.code yX1_lift cX1_lift 2 none, Cond.methodLink RX1 110 yX1_changeTaken, Cond.instanceMethod yX1_changeTaken, Cond.selects RX1 yX1_changeTaken yX1_changeTaken, Cond.code yX1_changeTaken cX1_changeTaken 6 none, Cond.fieldLink RX1 23 "LoopScheduler$Timetable" "loop" "LLoopScheduler$Loop;", Cond.fieldLink RX1 101 "LoopScheduler$Loop" "kinds" "[I", Cond.fieldLink RX1 104 "LoopScheduler$Loop" "busy" "[I", Cond.fieldLink RX1 17 "LoopScheduler$Timetable" "takenUnits" "[[I", Cond.fieldLink RX1 27 "LoopScheduler$Timetable" "interval" "I", Cond.methodLink RX1 59 yX1_earliestAllowed, Cond.instanceMethod yX1_earliestAllowed, Cond.selects RX1 yX1_earliestAllowed yX1_earliestAllowed, Cond.code yX1_earliestAllowed cX1_earliestAllowed 5 (some .int), Cond.fieldLink RX1 80 "LoopScheduler$Loop" "dependences" "I", Cond.fieldLink RX1 83 "LoopScheduler$Loop" "sources" "[I", Cond.fieldLink RX1 86 "LoopScheduler$Loop" "targets" "[I", Cond.fieldLink RX1 89 "LoopScheduler$Loop" "delays" "[I", Cond.fieldLink RX1 92 "LoopScheduler$Loop" "distances" "[I", Cond.methodLink RX1 95 Lib.Math.max.name]
def wsX2_move_r3 : List Cond := [Cond.static Lib.Math.max.name, Cond.initialized "java/lang/Math", Cond.code Lib.Math.max.name Lib.Math.max.code 2 (some .int), Cond.methodLink RX1 63 yX1_latestAllowed, Cond.instanceMethod yX1_latestAllowed, Cond.selects RX1 yX1_latestAllowed yX1_latestAllowed, Cond.code yX1_latestAllowed cX1_latestAllowed 5 (some .int), Cond.constant RX1 100 (2147483647), Cond.methodLink RX1 66 Lib.Math.min.name, Cond.static Lib.Math.min.name, Cond.code Lib.Math.min.name Lib.Math.min.code 2 (some .int), Cond.methodLink RX1 72 yX1_hasUnits, Cond.instanceMethod yX1_hasUnits, Cond.selects RX1 yX1_hasUnits yX1_hasUnits, Cond.code yX1_hasUnits cX1_hasUnits 6 (some .boolean), Cond.fieldLink RX1 107 "LoopScheduler$Loop" "units" "[I", Cond.methodLink RX1 76 yX1_place, Cond.instanceMethod yX1_place, Cond.selects RX1 yX1_place yX1_place, Cond.code yX1_place cX1_place 3 none]
def wsX2_move : List Cond := .code yX2_move cX2_move 3 (some .boolean) :: ((wsX2_move_r1 ++ (wsX2_move_r2 ++ wsX2_move_r3)) ++ wsX20 ++ wsX00 ++ wsX10 ++ (vx_atS RX2 33 "java/lang/IllegalArgumentException" ["java/lang/RuntimeException", "java/lang/Exception"]).filter goodWord ++ (vx_atS RX2 85 "java/lang/IndexOutOfBoundsException" ["java/lang/RuntimeException", "java/lang/Exception"]).filter goodWord ++ (vx_atS RX2 59 "java/lang/IllegalStateException" ["java/lang/RuntimeException", "java/lang/Exception"]).filter goodWord)
def wsX2_freedom_r1 : List Cond := [Cond.fieldLink RX2 21 "LoopScheduler" "table" "LLoopScheduler$Timetable;", Cond.methodLink RX2 64 yX2_requireOperation, Cond.instanceMethod yX2_requireOperation, Cond.selects RX2 yX2_requireOperation yX2_requireOperation, Cond.initialized RX2, Cond.code yX2_requireOperation cX2_requireOperation 2 none, Cond.classLink RX2 81 "java/lang/IndexOutOfBoundsException", Cond.initialized "java/lang/IndexOutOfBoundsException", Cond.fieldLink RX2 10 "LoopScheduler" "loop" "LLoopScheduler$Loop;", Cond.fieldLink RX2 51 "LoopScheduler$Loop" "operations" "I", Cond.methodLink RX2 120 yX2_requireSchedule, Cond.instanceMethod yX2_requireSchedule, Cond.selects RX2 yX2_requireSchedule yX2_requireSchedule, Cond.code yX2_requireSchedule cX2_requireSchedule 1 none, Cond.classLink RX2 55 "java/lang/IllegalStateException", Cond.initialized "java/lang/IllegalStateException", Cond.fieldLink RX2 117 "LoopScheduler$Timetable" "interval" "I", Cond.methodLink RX2 132 yX1_countPlaces, Cond.instanceMethod yX1_countPlaces, Cond.selects RX1 yX1_countPlaces yX1_countPlaces, Cond.initialized RX1, Cond.code yX1_countPlaces cX1_countPlaces 6 (some .int), Cond.fieldLink RX1 9 "LoopScheduler$Timetable" "times" "[I", Cond.methodLink RX1 66 Lib.Math.min.name]
def wsX2_freedom_r2 : List Cond := [Cond.static Lib.Math.min.name, Cond.initialized "java/lang/Math", Cond.code Lib.Math.min.name Lib.Math.min.code 2 (some .int), Cond.methodLink RX1 114 yX1_lift, Cond.instanceMethod yX1_lift, Cond.selects RX1 yX1_lift yX1_lift, Cond.code yX1_lift cX1_lift 2 none, Cond.methodLink RX1 110 yX1_changeTaken, Cond.instanceMethod yX1_changeTaken, Cond.selects RX1 yX1_changeTaken yX1_changeTaken, Cond.code yX1_changeTaken cX1_changeTaken 6 none, Cond.fieldLink RX1 23 "LoopScheduler$Timetable" "loop" "LLoopScheduler$Loop;", Cond.fieldLink RX1 101 "LoopScheduler$Loop" "kinds" "[I", Cond.fieldLink RX1 104 "LoopScheduler$Loop" "busy" "[I", Cond.fieldLink RX1 17 "LoopScheduler$Timetable" "takenUnits" "[[I", Cond.fieldLink RX1 27 "LoopScheduler$Timetable" "interval" "I", Cond.methodLink RX1 63 yX1_latestAllowed, Cond.instanceMethod yX1_latestAllowed, Cond.selects RX1 yX1_latestAllowed yX1_latestAllowed, Cond.code yX1_latestAllowed cX1_latestAllowed 5 (some .int), Cond.constant RX1 100 (2147483647), Cond.fieldLink RX1 80 "LoopScheduler$Loop" "dependences" "I", Cond.fieldLink RX1 86 "LoopScheduler$Loop" "targets" "[I", Cond.fieldLink RX1 83 "LoopScheduler$Loop" "sources" "[I"]
def wsX2_freedom_r3 : List Cond := [Cond.fieldLink RX1 89 "LoopScheduler$Loop" "delays" "[I", Cond.fieldLink RX1 92 "LoopScheduler$Loop" "distances" "[I", Cond.methodLink RX1 59 yX1_earliestAllowed, Cond.instanceMethod yX1_earliestAllowed, Cond.selects RX1 yX1_earliestAllowed yX1_earliestAllowed, Cond.code yX1_earliestAllowed cX1_earliestAllowed 5 (some .int), Cond.methodLink RX1 95 Lib.Math.max.name, Cond.static Lib.Math.max.name, Cond.code Lib.Math.max.name Lib.Math.max.code 2 (some .int), Cond.methodLink RX1 72 yX1_hasUnits, Cond.instanceMethod yX1_hasUnits, Cond.selects RX1 yX1_hasUnits yX1_hasUnits, Cond.code yX1_hasUnits cX1_hasUnits 6 (some .boolean), Cond.fieldLink RX1 107 "LoopScheduler$Loop" "units" "[I", Cond.methodLink RX1 76 yX1_place, Cond.instanceMethod yX1_place, Cond.selects RX1 yX1_place yX1_place, Cond.code yX1_place cX1_place 3 none]
def wsX2_freedom : List Cond := .code yX2_freedom cX2_freedom 2 (some .int) :: ((wsX2_freedom_r1 ++ (wsX2_freedom_r2 ++ wsX2_freedom_r3)) ++ wsX20 ++ wsX00 ++ wsX10 ++ (vx_atS RX2 85 "java/lang/IndexOutOfBoundsException" ["java/lang/RuntimeException", "java/lang/Exception"]).filter goodWord ++ (vx_atS RX2 59 "java/lang/IllegalStateException" ["java/lang/RuntimeException", "java/lang/Exception"]).filter goodWord)
def wsX2_stages_r1 : List Cond := [Cond.fieldLink RX2 21 "LoopScheduler" "table" "LLoopScheduler$Timetable;", Cond.methodLink RX2 120 yX2_requireSchedule, Cond.instanceMethod yX2_requireSchedule, Cond.selects RX2 yX2_requireSchedule yX2_requireSchedule, Cond.initialized RX2, Cond.code yX2_requireSchedule cX2_requireSchedule 1 none, Cond.classLink RX2 55 "java/lang/IllegalStateException", Cond.initialized "java/lang/IllegalStateException", Cond.fieldLink RX2 117 "LoopScheduler$Timetable" "interval" "I", Cond.methodLink RX2 136 yX1_countStages, Cond.instanceMethod yX1_countStages, Cond.selects RX1 yX1_countStages yX1_countStages, Cond.initialized RX1, Cond.code yX1_countStages cX1_countStages 1 (some .int), Cond.fieldLink RX1 23 "LoopScheduler$Timetable" "loop" "LLoopScheduler$Loop;", Cond.fieldLink RX1 43 "LoopScheduler$Loop" "operations" "I", Cond.fieldLink RX1 27 "LoopScheduler$Timetable" "interval" "I", Cond.methodLink RX1 118 yX1_greatestTime, Cond.instanceMethod yX1_greatestTime, Cond.selects RX1 yX1_greatestTime yX1_greatestTime, Cond.code yX1_greatestTime cX1_greatestTime 3 (some .int), Cond.fieldLink RX1 9 "LoopScheduler$Timetable" "times" "[I", Cond.methodLink RX1 95 Lib.Math.max.name, Cond.static Lib.Math.max.name]
def wsX2_stages_r2 : List Cond := [Cond.initialized "java/lang/Math", Cond.code Lib.Math.max.name Lib.Math.max.code 2 (some .int)]
def wsX2_stages : List Cond := .code yX2_stages cX2_stages 1 (some .int) :: ((wsX2_stages_r1 ++ wsX2_stages_r2) ++ wsX20 ++ wsX10 ++ wsX00 ++ (vx_atS RX2 59 "java/lang/IllegalStateException" ["java/lang/RuntimeException", "java/lang/Exception"]).filter goodWord)
def wsX2_requireRow : List Cond := .code yX2_requireRow cX2_requireRow 2 none :: ([.classLink RX2 29 "java/lang/IllegalArgumentException", .initialized "java/lang/IllegalArgumentException", .fieldLink RX2 21 "LoopScheduler" "table" "LLoopScheduler$Timetable;", .fieldLink RX2 117 "LoopScheduler$Timetable" "interval" "I"] ++ wsX20 ++ wsX10 ++ (vx_atS RX2 33 "java/lang/IllegalArgumentException" ["java/lang/RuntimeException", "java/lang/Exception"]).filter goodWord)
def wsX2_taken : List Cond := .code yX2_taken cX2_taken 3 (some .int) :: ([.fieldLink RX2 21 "LoopScheduler" "table" "LLoopScheduler$Timetable;", .fieldLink RX2 142 "LoopScheduler$Timetable" "takenUnits" "[[I", .methodLink RX2 25 yX2_requireKind, .static yX2_requireKind, .initialized RX2, .code yX2_requireKind cX2_requireKind 1 none, .classLink RX2 81 "java/lang/IndexOutOfBoundsException", .initialized "java/lang/IndexOutOfBoundsException", .methodLink RX2 43 yX2_isKind, .static yX2_isKind, .code yX2_isKind cX2_isKind 1 (some .boolean), .methodLink RX2 120 yX2_requireSchedule, .instanceMethod yX2_requireSchedule, .selects RX2 yX2_requireSchedule yX2_requireSchedule, .code yX2_requireSchedule cX2_requireSchedule 1 none, .classLink RX2 55 "java/lang/IllegalStateException", .initialized "java/lang/IllegalStateException", .fieldLink RX2 117 "LoopScheduler$Timetable" "interval" "I", .methodLink RX2 139 yX2_requireRow, .instanceMethod yX2_requireRow, .selects RX2 yX2_requireRow yX2_requireRow, .code yX2_requireRow cX2_requireRow 2 none, .classLink RX2 29 "java/lang/IllegalArgumentException", .initialized "java/lang/IllegalArgumentException"] ++ wsX20 ++ wsX10 ++ (vx_atS RX2 85 "java/lang/IndexOutOfBoundsException" ["java/lang/RuntimeException", "java/lang/Exception"]).filter goodWord ++ (vx_atS RX2 59 "java/lang/IllegalStateException" ["java/lang/RuntimeException", "java/lang/Exception"]).filter goodWord ++ (vx_atS RX2 33 "java/lang/IllegalArgumentException" ["java/lang/RuntimeException", "java/lang/Exception"]).filter goodWord)
def wsX2_lifetime_r1 : List Cond := [Cond.fieldLink RX2 21 "LoopScheduler" "table" "LLoopScheduler$Timetable;", Cond.fieldLink RX2 149 "LoopScheduler$Timetable" "lifetimes" "[I", Cond.methodLink RX2 64 yX2_requireOperation, Cond.instanceMethod yX2_requireOperation, Cond.selects RX2 yX2_requireOperation yX2_requireOperation, Cond.initialized RX2, Cond.code yX2_requireOperation cX2_requireOperation 2 none, Cond.classLink RX2 81 "java/lang/IndexOutOfBoundsException", Cond.initialized "java/lang/IndexOutOfBoundsException", Cond.fieldLink RX2 10 "LoopScheduler" "loop" "LLoopScheduler$Loop;", Cond.fieldLink RX2 51 "LoopScheduler$Loop" "operations" "I", Cond.methodLink RX2 120 yX2_requireSchedule, Cond.instanceMethod yX2_requireSchedule, Cond.selects RX2 yX2_requireSchedule yX2_requireSchedule, Cond.code yX2_requireSchedule cX2_requireSchedule 1 none, Cond.classLink RX2 55 "java/lang/IllegalStateException", Cond.initialized "java/lang/IllegalStateException", Cond.fieldLink RX2 117 "LoopScheduler$Timetable" "interval" "I", Cond.methodLink RX2 146 yX1_findLifetimes, Cond.instanceMethod yX1_findLifetimes, Cond.selects RX1 yX1_findLifetimes yX1_findLifetimes, Cond.initialized RX1, Cond.code yX1_findLifetimes cX1_findLifetimes 4 none, Cond.fieldLink RX1 20 "LoopScheduler$Timetable" "lifetimes" "[I"]
def wsX2_lifetime_r2 : List Cond := [Cond.fieldLink RX1 23 "LoopScheduler$Timetable" "loop" "LLoopScheduler$Loop;", Cond.fieldLink RX1 80 "LoopScheduler$Loop" "dependences" "I", Cond.fieldLink RX1 83 "LoopScheduler$Loop" "sources" "[I", Cond.fieldLink RX1 9 "LoopScheduler$Timetable" "times" "[I", Cond.fieldLink RX1 86 "LoopScheduler$Loop" "targets" "[I", Cond.fieldLink RX1 27 "LoopScheduler$Timetable" "interval" "I", Cond.fieldLink RX1 92 "LoopScheduler$Loop" "distances" "[I", Cond.methodLink RX1 95 Lib.Math.max.name, Cond.static Lib.Math.max.name, Cond.initialized "java/lang/Math", Cond.code Lib.Math.max.name Lib.Math.max.code 2 (some .int), Cond.methodLink RX1 37 yJ7_fill_53178, Cond.static yJ7_fill_53178, Cond.initialized RJ7, Cond.code yJ7_fill_53178 cJ7_fill_53178 4 none]
def wsX2_lifetime : List Cond := .code yX2_lifetime cX2_lifetime 2 (some .int) :: ((wsX2_lifetime_r1 ++ wsX2_lifetime_r2) ++ wsX20 ++ wsX10 ++ wsX00 ++ (vx_atS RX2 85 "java/lang/IndexOutOfBoundsException" ["java/lang/RuntimeException", "java/lang/Exception"]).filter goodWord ++ (vx_atS RX2 59 "java/lang/IllegalStateException" ["java/lang/RuntimeException", "java/lang/Exception"]).filter goodWord)
def wsX2_live_r1 : List Cond := [Cond.fieldLink RX2 21 "LoopScheduler" "table" "LLoopScheduler$Timetable;", Cond.methodLink RX2 120 yX2_requireSchedule, Cond.instanceMethod yX2_requireSchedule, Cond.selects RX2 yX2_requireSchedule yX2_requireSchedule, Cond.initialized RX2, Cond.code yX2_requireSchedule cX2_requireSchedule 1 none, Cond.classLink RX2 55 "java/lang/IllegalStateException", Cond.initialized "java/lang/IllegalStateException", Cond.fieldLink RX2 117 "LoopScheduler$Timetable" "interval" "I", Cond.methodLink RX2 139 yX2_requireRow, Cond.instanceMethod yX2_requireRow, Cond.selects RX2 yX2_requireRow yX2_requireRow, Cond.code yX2_requireRow cX2_requireRow 2 none, Cond.classLink RX2 29 "java/lang/IllegalArgumentException", Cond.initialized "java/lang/IllegalArgumentException", Cond.methodLink RX2 146 yX1_findLifetimes, Cond.instanceMethod yX1_findLifetimes, Cond.selects RX1 yX1_findLifetimes yX1_findLifetimes, Cond.initialized RX1, Cond.code yX1_findLifetimes cX1_findLifetimes 4 none, Cond.fieldLink RX1 20 "LoopScheduler$Timetable" "lifetimes" "[I", Cond.fieldLink RX1 23 "LoopScheduler$Timetable" "loop" "LLoopScheduler$Loop;", Cond.fieldLink RX1 80 "LoopScheduler$Loop" "dependences" "I", Cond.fieldLink RX1 83 "LoopScheduler$Loop" "sources" "[I"]
def wsX2_live_r2 : List Cond := [Cond.fieldLink RX1 9 "LoopScheduler$Timetable" "times" "[I", Cond.fieldLink RX1 86 "LoopScheduler$Loop" "targets" "[I", Cond.fieldLink RX1 27 "LoopScheduler$Timetable" "interval" "I", Cond.fieldLink RX1 92 "LoopScheduler$Loop" "distances" "[I", Cond.methodLink RX1 95 Lib.Math.max.name, Cond.static Lib.Math.max.name, Cond.initialized "java/lang/Math", Cond.code Lib.Math.max.name Lib.Math.max.code 2 (some .int), Cond.methodLink RX1 37 yJ7_fill_53178, Cond.static yJ7_fill_53178, Cond.initialized RJ7, Cond.code yJ7_fill_53178 cJ7_fill_53178 4 none, Cond.methodLink RX2 152 yX1_countLive, Cond.instanceMethod yX1_countLive, Cond.selects RX1 yX1_countLive yX1_countLive, Cond.code yX1_countLive cX1_countLive 5 (some .int), Cond.fieldLink RX1 43 "LoopScheduler$Loop" "operations" "I", Cond.methodLink RX1 121 yJ9_floorMod_7cf53, Cond.static yJ9_floorMod_7cf53, Cond.initialized RJ9, Cond.code yJ9_floorMod_7cf53 cJ9_floorMod_7cf53 3 (some .int)]
def wsX2_live : List Cond := .code yX2_live cX2_live 2 (some .int) :: ((wsX2_live_r1 ++ wsX2_live_r2) ++ wsX20 ++ wsX10 ++ wsX00 ++ (vx_atS RX2 59 "java/lang/IllegalStateException" ["java/lang/RuntimeException", "java/lang/Exception"]).filter goodWord ++ (vx_atS RX2 33 "java/lang/IllegalArgumentException" ["java/lang/RuntimeException", "java/lang/Exception"]).filter goodWord)
def wsX2_registers_r1 : List Cond := [Cond.fieldLink RX2 21 "LoopScheduler" "table" "LLoopScheduler$Timetable;", Cond.fieldLink RX2 117 "LoopScheduler$Timetable" "interval" "I", Cond.methodLink RX2 109 Lib.Math.max.name, Cond.static Lib.Math.max.name, Cond.initialized "java/lang/Math", Cond.code Lib.Math.max.name Lib.Math.max.code 2 (some .int), Cond.methodLink RX2 120 yX2_requireSchedule, Cond.instanceMethod yX2_requireSchedule, Cond.selects RX2 yX2_requireSchedule yX2_requireSchedule, Cond.initialized RX2, Cond.code yX2_requireSchedule cX2_requireSchedule 1 none, Cond.classLink RX2 55 "java/lang/IllegalStateException", Cond.initialized "java/lang/IllegalStateException", Cond.methodLink RX2 146 yX1_findLifetimes, Cond.instanceMethod yX1_findLifetimes, Cond.selects RX1 yX1_findLifetimes yX1_findLifetimes, Cond.initialized RX1, Cond.code yX1_findLifetimes cX1_findLifetimes 4 none, Cond.fieldLink RX1 20 "LoopScheduler$Timetable" "lifetimes" "[I", Cond.fieldLink RX1 23 "LoopScheduler$Timetable" "loop" "LLoopScheduler$Loop;", Cond.fieldLink RX1 80 "LoopScheduler$Loop" "dependences" "I", Cond.fieldLink RX1 83 "LoopScheduler$Loop" "sources" "[I", Cond.fieldLink RX1 9 "LoopScheduler$Timetable" "times" "[I", Cond.fieldLink RX1 86 "LoopScheduler$Loop" "targets" "[I"]
def wsX2_registers_r2 : List Cond := [Cond.fieldLink RX1 27 "LoopScheduler$Timetable" "interval" "I", Cond.fieldLink RX1 92 "LoopScheduler$Loop" "distances" "[I", Cond.methodLink RX1 95 Lib.Math.max.name, Cond.methodLink RX1 37 yJ7_fill_53178, Cond.static yJ7_fill_53178, Cond.initialized RJ7, Cond.code yJ7_fill_53178 cJ7_fill_53178 4 none, Cond.methodLink RX2 152 yX1_countLive, Cond.instanceMethod yX1_countLive, Cond.selects RX1 yX1_countLive yX1_countLive, Cond.code yX1_countLive cX1_countLive 5 (some .int), Cond.fieldLink RX1 43 "LoopScheduler$Loop" "operations" "I", Cond.methodLink RX1 121 yJ9_floorMod_7cf53, Cond.static yJ9_floorMod_7cf53, Cond.initialized RJ9, Cond.code yJ9_floorMod_7cf53 cJ9_floorMod_7cf53 3 (some .int)]
def wsX2_registers : List Cond := .code yX2_registers cX2_registers 3 (some .int) :: ((wsX2_registers_r1 ++ wsX2_registers_r2) ++ wsX20 ++ wsX10 ++ wsX00 ++ (vx_atS RX2 59 "java/lang/IllegalStateException" ["java/lang/RuntimeException", "java/lang/Exception"]).filter goodWord)
def wsX2_copies_r1 : List Cond := [Cond.fieldLink RX2 21 "LoopScheduler" "table" "LLoopScheduler$Timetable;", Cond.methodLink RX2 64 yX2_requireOperation, Cond.instanceMethod yX2_requireOperation, Cond.selects RX2 yX2_requireOperation yX2_requireOperation, Cond.initialized RX2, Cond.code yX2_requireOperation cX2_requireOperation 2 none, Cond.classLink RX2 81 "java/lang/IndexOutOfBoundsException", Cond.initialized "java/lang/IndexOutOfBoundsException", Cond.fieldLink RX2 10 "LoopScheduler" "loop" "LLoopScheduler$Loop;", Cond.fieldLink RX2 51 "LoopScheduler$Loop" "operations" "I", Cond.methodLink RX2 120 yX2_requireSchedule, Cond.instanceMethod yX2_requireSchedule, Cond.selects RX2 yX2_requireSchedule yX2_requireSchedule, Cond.code yX2_requireSchedule cX2_requireSchedule 1 none, Cond.classLink RX2 55 "java/lang/IllegalStateException", Cond.initialized "java/lang/IllegalStateException", Cond.fieldLink RX2 117 "LoopScheduler$Timetable" "interval" "I", Cond.methodLink RX2 146 yX1_findLifetimes, Cond.instanceMethod yX1_findLifetimes, Cond.selects RX1 yX1_findLifetimes yX1_findLifetimes, Cond.initialized RX1, Cond.code yX1_findLifetimes cX1_findLifetimes 4 none, Cond.fieldLink RX1 20 "LoopScheduler$Timetable" "lifetimes" "[I", Cond.fieldLink RX1 23 "LoopScheduler$Timetable" "loop" "LLoopScheduler$Loop;"]
def wsX2_copies_r2 : List Cond := [Cond.fieldLink RX1 80 "LoopScheduler$Loop" "dependences" "I", Cond.fieldLink RX1 83 "LoopScheduler$Loop" "sources" "[I", Cond.fieldLink RX1 9 "LoopScheduler$Timetable" "times" "[I", Cond.fieldLink RX1 86 "LoopScheduler$Loop" "targets" "[I", Cond.fieldLink RX1 27 "LoopScheduler$Timetable" "interval" "I", Cond.fieldLink RX1 92 "LoopScheduler$Loop" "distances" "[I", Cond.methodLink RX1 95 Lib.Math.max.name, Cond.static Lib.Math.max.name, Cond.initialized "java/lang/Math", Cond.code Lib.Math.max.name Lib.Math.max.code 2 (some .int), Cond.methodLink RX1 37 yJ7_fill_53178, Cond.static yJ7_fill_53178, Cond.initialized RJ7, Cond.code yJ7_fill_53178 cJ7_fill_53178 4 none, Cond.methodLink RX2 155 yX1_countCopies, Cond.instanceMethod yX1_countCopies, Cond.selects RX1 yX1_countCopies yX1_countCopies, Cond.code yX1_countCopies cX1_countCopies 2 (some .int)]
def wsX2_copies : List Cond := .code yX2_copies cX2_copies 2 (some .int) :: ((wsX2_copies_r1 ++ wsX2_copies_r2) ++ wsX20 ++ wsX00 ++ wsX10 ++ (vx_atS RX2 85 "java/lang/IndexOutOfBoundsException" ["java/lang/RuntimeException", "java/lang/Exception"]).filter goodWord ++ (vx_atS RX2 59 "java/lang/IllegalStateException" ["java/lang/RuntimeException", "java/lang/Exception"]).filter goodWord)
def wsX2_leastCommonMultiple : List Cond := .code yX2_leastCommonMultiple cX2_leastCommonMultiple 4 (some .long) :: ([])
def wsX2_unrolling_r1 : List Cond := [Cond.fieldLink RX2 21 "LoopScheduler" "table" "LLoopScheduler$Timetable;", Cond.fieldLink RX2 10 "LoopScheduler" "loop" "LLoopScheduler$Loop;", Cond.fieldLink RX2 51 "LoopScheduler$Loop" "operations" "I", Cond.constantLong RX2 162 (1000000), Cond.constant RX2 164 (1000000), Cond.methodLink RX2 120 yX2_requireSchedule, Cond.instanceMethod yX2_requireSchedule, Cond.selects RX2 yX2_requireSchedule yX2_requireSchedule, Cond.initialized RX2, Cond.code yX2_requireSchedule cX2_requireSchedule 1 none, Cond.classLink RX2 55 "java/lang/IllegalStateException", Cond.initialized "java/lang/IllegalStateException", Cond.fieldLink RX2 117 "LoopScheduler$Timetable" "interval" "I", Cond.methodLink RX2 146 yX1_findLifetimes, Cond.instanceMethod yX1_findLifetimes, Cond.selects RX1 yX1_findLifetimes yX1_findLifetimes, Cond.initialized RX1, Cond.code yX1_findLifetimes cX1_findLifetimes 4 none, Cond.fieldLink RX1 20 "LoopScheduler$Timetable" "lifetimes" "[I", Cond.fieldLink RX1 23 "LoopScheduler$Timetable" "loop" "LLoopScheduler$Loop;", Cond.fieldLink RX1 80 "LoopScheduler$Loop" "dependences" "I", Cond.fieldLink RX1 83 "LoopScheduler$Loop" "sources" "[I", Cond.fieldLink RX1 9 "LoopScheduler$Timetable" "times" "[I", Cond.fieldLink RX1 86 "LoopScheduler$Loop" "targets" "[I"]
def wsX2_unrolling_r2 : List Cond := [Cond.fieldLink RX1 27 "LoopScheduler$Timetable" "interval" "I", Cond.fieldLink RX1 92 "LoopScheduler$Loop" "distances" "[I", Cond.methodLink RX1 95 Lib.Math.max.name, Cond.static Lib.Math.max.name, Cond.initialized "java/lang/Math", Cond.code Lib.Math.max.name Lib.Math.max.code 2 (some .int), Cond.methodLink RX1 37 yJ7_fill_53178, Cond.static yJ7_fill_53178, Cond.initialized RJ7, Cond.code yJ7_fill_53178 cJ7_fill_53178 4 none, Cond.methodLink RX2 155 yX1_countCopies, Cond.instanceMethod yX1_countCopies, Cond.selects RX1 yX1_countCopies yX1_countCopies, Cond.code yX1_countCopies cX1_countCopies 2 (some .int), Cond.methodLink RX2 158 yX2_leastCommonMultiple, Cond.static yX2_leastCommonMultiple, Cond.code yX2_leastCommonMultiple cX2_leastCommonMultiple 4 (some .long)]
def wsX2_unrolling : List Cond := .code yX2_unrolling cX2_unrolling 4 (some .int) :: ((wsX2_unrolling_r1 ++ wsX2_unrolling_r2) ++ wsX20 ++ wsX00 ++ wsX10 ++ (vx_atS RX2 59 "java/lang/IllegalStateException" ["java/lang/RuntimeException", "java/lang/Exception"]).filter goodWord)
def wsX2_requireIterations : List Cond := .code yX2_requireIterations cX2_requireIterations 1 none :: ([.classLink RX2 29 "java/lang/IllegalArgumentException", .initialized "java/lang/IllegalArgumentException"] ++ (vx_atS RX2 33 "java/lang/IllegalArgumentException" ["java/lang/RuntimeException", "java/lang/Exception"]).filter goodWord)
def wsX2_cycles_r1 : List Cond := [Cond.fieldLink RX2 10 "LoopScheduler" "loop" "LLoopScheduler$Loop;", Cond.fieldLink RX2 51 "LoopScheduler$Loop" "operations" "I", Cond.fieldLink RX2 21 "LoopScheduler" "table" "LLoopScheduler$Timetable;", Cond.fieldLink RX2 117 "LoopScheduler$Timetable" "interval" "I", Cond.methodLink RX2 120 yX2_requireSchedule, Cond.instanceMethod yX2_requireSchedule, Cond.selects RX2 yX2_requireSchedule yX2_requireSchedule, Cond.initialized RX2, Cond.code yX2_requireSchedule cX2_requireSchedule 1 none, Cond.classLink RX2 55 "java/lang/IllegalStateException", Cond.initialized "java/lang/IllegalStateException", Cond.methodLink RX2 165 yX2_requireIterations, Cond.static yX2_requireIterations, Cond.code yX2_requireIterations cX2_requireIterations 1 none, Cond.classLink RX2 29 "java/lang/IllegalArgumentException", Cond.initialized "java/lang/IllegalArgumentException", Cond.methodLink RX2 168 yX1_greatestTime, Cond.instanceMethod yX1_greatestTime, Cond.selects RX1 yX1_greatestTime yX1_greatestTime, Cond.initialized RX1, Cond.code yX1_greatestTime cX1_greatestTime 3 (some .int), Cond.fieldLink RX1 23 "LoopScheduler$Timetable" "loop" "LLoopScheduler$Loop;", Cond.fieldLink RX1 43 "LoopScheduler$Loop" "operations" "I", Cond.fieldLink RX1 9 "LoopScheduler$Timetable" "times" "[I"]
def wsX2_cycles_r2 : List Cond := [Cond.methodLink RX1 95 Lib.Math.max.name, Cond.static Lib.Math.max.name, Cond.initialized "java/lang/Math", Cond.code Lib.Math.max.name Lib.Math.max.code 2 (some .int)]
def wsX2_cycles : List Cond := .code yX2_cycles cX2_cycles 2 (some .int) :: ((wsX2_cycles_r1 ++ wsX2_cycles_r2) ++ wsX20 ++ wsX00 ++ wsX10 ++ (vx_atS RX2 59 "java/lang/IllegalStateException" ["java/lang/RuntimeException", "java/lang/Exception"]).filter goodWord ++ (vx_atS RX2 33 "java/lang/IllegalArgumentException" ["java/lang/RuntimeException", "java/lang/Exception"]).filter goodWord)
def wsX2_requireCycle : List Cond := .code yX2_requireCycle cX2_requireCycle 1 none :: ([.classLink RX2 29 "java/lang/IllegalArgumentException", .initialized "java/lang/IllegalArgumentException"] ++ (vx_atS RX2 33 "java/lang/IllegalArgumentException" ["java/lang/RuntimeException", "java/lang/Exception"]).filter goodWord)
def wsX2_isIssued : List Cond := .code yX2_isIssued cX2_isIssued 5 (some .boolean) :: ([.fieldLink RX2 21 "LoopScheduler" "table" "LLoopScheduler$Timetable;", .fieldLink RX2 123 "LoopScheduler$Timetable" "times" "[I", .fieldLink RX2 117 "LoopScheduler$Timetable" "interval" "I"] ++ wsX20 ++ wsX10)
def wsX2_issued : List Cond := .code yX2_issued cX2_issued 5 (some .int) :: ([.fieldLink RX2 10 "LoopScheduler" "loop" "LLoopScheduler$Loop;", .fieldLink RX2 51 "LoopScheduler$Loop" "operations" "I", .methodLink RX2 120 yX2_requireSchedule, .instanceMethod yX2_requireSchedule, .selects RX2 yX2_requireSchedule yX2_requireSchedule, .initialized RX2, .code yX2_requireSchedule cX2_requireSchedule 1 none, .classLink RX2 55 "java/lang/IllegalStateException", .initialized "java/lang/IllegalStateException", .fieldLink RX2 21 "LoopScheduler" "table" "LLoopScheduler$Timetable;", .fieldLink RX2 117 "LoopScheduler$Timetable" "interval" "I", .methodLink RX2 165 yX2_requireIterations, .static yX2_requireIterations, .code yX2_requireIterations cX2_requireIterations 1 none, .classLink RX2 29 "java/lang/IllegalArgumentException", .initialized "java/lang/IllegalArgumentException", .methodLink RX2 171 yX2_requireCycle, .static yX2_requireCycle, .code yX2_requireCycle cX2_requireCycle 1 none, .methodLink RX2 174 yX2_isIssued, .instanceMethod yX2_isIssued, .selects RX2 yX2_isIssued yX2_isIssued, .code yX2_isIssued cX2_isIssued 5 (some .boolean), .fieldLink RX2 123 "LoopScheduler$Timetable" "times" "[I"] ++ wsX20 ++ wsX00 ++ wsX10 ++ (vx_atS RX2 59 "java/lang/IllegalStateException" ["java/lang/RuntimeException", "java/lang/Exception"]).filter goodWord ++ (vx_atS RX2 33 "java/lang/IllegalArgumentException" ["java/lang/RuntimeException", "java/lang/Exception"]).filter goodWord)
def wsX2_issueNumber : List Cond := .code yX2_issueNumber cX2_issueNumber 4 (some .int) :: ([.fieldLink RX2 21 "LoopScheduler" "table" "LLoopScheduler$Timetable;", .fieldLink RX2 123 "LoopScheduler$Timetable" "times" "[I", .fieldLink RX2 117 "LoopScheduler$Timetable" "interval" "I"] ++ wsX20 ++ wsX10)
def wsX2_countIssuedBefore : List Cond := .code yX2_countIssuedBefore cX2_countIssuedBefore 7 (some .int) :: ([.fieldLink RX2 10 "LoopScheduler" "loop" "LLoopScheduler$Loop;", .fieldLink RX2 51 "LoopScheduler$Loop" "operations" "I", .methodLink RX2 182 yX2_issueNumber, .instanceMethod yX2_issueNumber, .selects RX2 yX2_issueNumber yX2_issueNumber, .initialized RX2, .code yX2_issueNumber cX2_issueNumber 4 (some .int), .fieldLink RX2 21 "LoopScheduler" "table" "LLoopScheduler$Timetable;", .fieldLink RX2 123 "LoopScheduler$Timetable" "times" "[I", .fieldLink RX2 117 "LoopScheduler$Timetable" "interval" "I", .methodLink RX2 174 yX2_isIssued, .instanceMethod yX2_isIssued, .selects RX2 yX2_isIssued yX2_isIssued, .code yX2_isIssued cX2_isIssued 5 (some .boolean)] ++ wsX20 ++ wsX00 ++ wsX10)
def wsX2_issue_r1 : List Cond := [Cond.classLink RX2 81 "java/lang/IndexOutOfBoundsException", Cond.initialized "java/lang/IndexOutOfBoundsException", Cond.fieldLink RX2 10 "LoopScheduler" "loop" "LLoopScheduler$Loop;", Cond.fieldLink RX2 51 "LoopScheduler$Loop" "operations" "I", Cond.methodLink RX2 120 yX2_requireSchedule, Cond.instanceMethod yX2_requireSchedule, Cond.selects RX2 yX2_requireSchedule yX2_requireSchedule, Cond.initialized RX2, Cond.code yX2_requireSchedule cX2_requireSchedule 1 none, Cond.classLink RX2 55 "java/lang/IllegalStateException", Cond.initialized "java/lang/IllegalStateException", Cond.fieldLink RX2 21 "LoopScheduler" "table" "LLoopScheduler$Timetable;", Cond.fieldLink RX2 117 "LoopScheduler$Timetable" "interval" "I", Cond.methodLink RX2 165 yX2_requireIterations, Cond.static yX2_requireIterations, Cond.code yX2_requireIterations cX2_requireIterations 1 none, Cond.classLink RX2 29 "java/lang/IllegalArgumentException", Cond.initialized "java/lang/IllegalArgumentException", Cond.methodLink RX2 171 yX2_requireCycle, Cond.static yX2_requireCycle, Cond.code yX2_requireCycle cX2_requireCycle 1 none, Cond.methodLink RX2 174 yX2_isIssued, Cond.instanceMethod yX2_isIssued, Cond.selects RX2 yX2_isIssued yX2_isIssued]
def wsX2_issue_r2 : List Cond := [Cond.code yX2_isIssued cX2_isIssued 5 (some .boolean), Cond.fieldLink RX2 123 "LoopScheduler$Timetable" "times" "[I", Cond.methodLink RX2 178 yX2_countIssuedBefore, Cond.instanceMethod yX2_countIssuedBefore, Cond.selects RX2 yX2_countIssuedBefore yX2_countIssuedBefore, Cond.code yX2_countIssuedBefore cX2_countIssuedBefore 7 (some .int), Cond.methodLink RX2 182 yX2_issueNumber, Cond.instanceMethod yX2_issueNumber, Cond.selects RX2 yX2_issueNumber yX2_issueNumber, Cond.code yX2_issueNumber cX2_issueNumber 4 (some .int)]
def wsX2_issue : List Cond := .code yX2_issue cX2_issue 5 (some .int) :: ((wsX2_issue_r1 ++ wsX2_issue_r2) ++ wsX20 ++ wsX00 ++ wsX10 ++ (vx_atS RX2 85 "java/lang/IndexOutOfBoundsException" ["java/lang/RuntimeException", "java/lang/Exception"]).filter goodWord ++ (vx_atS RX2 59 "java/lang/IllegalStateException" ["java/lang/RuntimeException", "java/lang/Exception"]).filter goodWord ++ (vx_atS RX2 33 "java/lang/IllegalArgumentException" ["java/lang/RuntimeException", "java/lang/Exception"]).filter goodWord)
def wsX2_prologue_r1 : List Cond := [Cond.fieldLink RX2 21 "LoopScheduler" "table" "LLoopScheduler$Timetable;", Cond.fieldLink RX2 10 "LoopScheduler" "loop" "LLoopScheduler$Loop;", Cond.fieldLink RX2 51 "LoopScheduler$Loop" "operations" "I", Cond.methodLink RX2 120 yX2_requireSchedule, Cond.instanceMethod yX2_requireSchedule, Cond.selects RX2 yX2_requireSchedule yX2_requireSchedule, Cond.initialized RX2, Cond.code yX2_requireSchedule cX2_requireSchedule 1 none, Cond.classLink RX2 55 "java/lang/IllegalStateException", Cond.initialized "java/lang/IllegalStateException", Cond.fieldLink RX2 117 "LoopScheduler$Timetable" "interval" "I", Cond.methodLink RX2 136 yX1_countStages, Cond.instanceMethod yX1_countStages, Cond.selects RX1 yX1_countStages yX1_countStages, Cond.initialized RX1, Cond.code yX1_countStages cX1_countStages 1 (some .int), Cond.fieldLink RX1 23 "LoopScheduler$Timetable" "loop" "LLoopScheduler$Loop;", Cond.fieldLink RX1 43 "LoopScheduler$Loop" "operations" "I", Cond.fieldLink RX1 27 "LoopScheduler$Timetable" "interval" "I", Cond.methodLink RX1 118 yX1_greatestTime, Cond.instanceMethod yX1_greatestTime, Cond.selects RX1 yX1_greatestTime yX1_greatestTime, Cond.code yX1_greatestTime cX1_greatestTime 3 (some .int), Cond.fieldLink RX1 9 "LoopScheduler$Timetable" "times" "[I"]
def wsX2_prologue_r2 : List Cond := [Cond.methodLink RX1 95 Lib.Math.max.name, Cond.static Lib.Math.max.name, Cond.initialized "java/lang/Math", Cond.code Lib.Math.max.name Lib.Math.max.code 2 (some .int), Cond.methodLink RX2 187 yX1_stageOf, Cond.instanceMethod yX1_stageOf, Cond.selects RX1 yX1_stageOf yX1_stageOf, Cond.code yX1_stageOf cX1_stageOf 2 (some .int)]
def wsX2_prologue : List Cond := .code yX2_prologue cX2_prologue 4 (some .int) :: ((wsX2_prologue_r1 ++ wsX2_prologue_r2) ++ wsX20 ++ wsX00 ++ wsX10 ++ (vx_atS RX2 59 "java/lang/IllegalStateException" ["java/lang/RuntimeException", "java/lang/Exception"]).filter goodWord)
def wsX2_epilogue : List Cond := .code yX2_epilogue cX2_epilogue 3 (some .int) :: ([.fieldLink RX2 10 "LoopScheduler" "loop" "LLoopScheduler$Loop;", .fieldLink RX2 51 "LoopScheduler$Loop" "operations" "I", .fieldLink RX2 21 "LoopScheduler" "table" "LLoopScheduler$Timetable;", .methodLink RX2 120 yX2_requireSchedule, .instanceMethod yX2_requireSchedule, .selects RX2 yX2_requireSchedule yX2_requireSchedule, .initialized RX2, .code yX2_requireSchedule cX2_requireSchedule 1 none, .classLink RX2 55 "java/lang/IllegalStateException", .initialized "java/lang/IllegalStateException", .fieldLink RX2 117 "LoopScheduler$Timetable" "interval" "I", .methodLink RX2 187 yX1_stageOf, .instanceMethod yX1_stageOf, .selects RX1 yX1_stageOf yX1_stageOf, .initialized RX1, .code yX1_stageOf cX1_stageOf 2 (some .int), .fieldLink RX1 9 "LoopScheduler$Timetable" "times" "[I", .fieldLink RX1 27 "LoopScheduler$Timetable" "interval" "I"] ++ wsX20 ++ wsX00 ++ wsX10 ++ (vx_atS RX2 59 "java/lang/IllegalStateException" ["java/lang/RuntimeException", "java/lang/Exception"]).filter goodWord)
def wsX2_digestWith : List Cond := .code yX2_digestWith cX2_digestWith 3 (some .long) :: ([.constantLong RX2 210 (31)])
def wsX2_digest : List Cond := .code yX2_digest cX2_digest 4 (some .long) :: ([.constantLong RX2 190 (79), .fieldLink RX2 10 "LoopScheduler" "loop" "LLoopScheduler$Loop;", .fieldLink RX2 36 "LoopScheduler$Loop" "units" "[I", .fieldLink RX2 51 "LoopScheduler$Loop" "operations" "I", .fieldLink RX2 195 "LoopScheduler$Loop" "kinds" "[I", .fieldLink RX2 198 "LoopScheduler$Loop" "busy" "[I", .fieldLink RX2 72 "LoopScheduler$Loop" "dependences" "I", .fieldLink RX2 201 "LoopScheduler$Loop" "sources" "[I", .fieldLink RX2 204 "LoopScheduler$Loop" "targets" "[I", .fieldLink RX2 86 "LoopScheduler$Loop" "delays" "[I", .fieldLink RX2 207 "LoopScheduler$Loop" "distances" "[I", .fieldLink RX2 21 "LoopScheduler" "table" "LLoopScheduler$Timetable;", .fieldLink RX2 117 "LoopScheduler$Timetable" "interval" "I", .fieldLink RX2 123 "LoopScheduler$Timetable" "times" "[I", .methodLink RX2 192 yX2_digestWith, .static yX2_digestWith, .initialized RX2, .code yX2_digestWith cX2_digestWith 3 (some .long), .constantLong RX2 210 (31)] ++ wsX20 ++ wsX00 ++ wsX10)
def wsX3_init : List Cond := .code yX3_init cX3_init 1 none :: ([.methodLink RX3 1 objectInit, .instanceMethod objectInit, .code objectInit ⟨#[0xb1]⟩ 1 none, .arrayClass .int, .fieldLink RX3 7 "LoopSchedulerModel" "units" "[I", .fieldLink RX3 13 "LoopSchedulerModel" "kinds" "[I", .fieldLink RX3 16 "LoopSchedulerModel" "busy" "[I", .fieldLink RX3 19 "LoopSchedulerModel" "froms" "[I", .fieldLink RX3 22 "LoopSchedulerModel" "tos" "[I", .fieldLink RX3 25 "LoopSchedulerModel" "delays" "[I", .fieldLink RX3 28 "LoopSchedulerModel" "distances" "[I", .fieldLink RX3 31 "LoopSchedulerModel" "times" "[I", .fieldLink RX3 34 "LoopSchedulerModel" "heights" "[I", .arrayClass .boolean, .fieldLink RX3 37 "LoopSchedulerModel" "isPlaced" "[Z", .fieldLink RX3 41 "LoopSchedulerModel" "counts" "[I"] ++ wsX30)
def wsX3_thrown : List Cond := .code yX3_thrown cX3_thrown 1 (some .int) :: ([.fieldLink RX3 44 "LoopSchedulerModel" "thrown" "I"] ++ wsX30)
def wsX3_no : List Cond := .code yX3_no cX3_no 2 (some .int) :: ([.fieldLink RX3 44 "LoopSchedulerModel" "thrown" "I"] ++ wsX30)
def wsX3_isIn : List Cond := .code yX3_isIn cX3_isIn 3 (some .boolean) :: ([])
def wsX3_isOperation : List Cond := .code yX3_isOperation cX3_isOperation 2 (some .boolean) :: ([.fieldLink RX3 48 "LoopSchedulerModel" "operations" "I", .methodLink RX3 51 yX3_isIn, .static yX3_isIn, .initialized RX3, .code yX3_isIn cX3_isIn 3 (some .boolean)] ++ wsX30)
def wsX3_setUnits : List Cond := .code yX3_setUnits cX3_setUnits 4 (some .int) :: ([.fieldLink RX3 44 "LoopSchedulerModel" "thrown" "I", .fieldLink RX3 7 "LoopSchedulerModel" "units" "[I", .fieldLink RX3 59 "LoopSchedulerModel" "interval" "I", .methodLink RX3 51 yX3_isIn, .static yX3_isIn, .initialized RX3, .code yX3_isIn cX3_isIn 3 (some .boolean), .methodLink RX3 55 yX3_no, .instanceMethod yX3_no, .selects RX3 yX3_no yX3_no, .code yX3_no cX3_no 2 (some .int)] ++ wsX30)
def wsX3_addOperation : List Cond := .code yX3_addOperation cX3_addOperation 3 (some .int) :: ([.fieldLink RX3 44 "LoopSchedulerModel" "thrown" "I", .fieldLink RX3 48 "LoopSchedulerModel" "operations" "I", .fieldLink RX3 13 "LoopSchedulerModel" "kinds" "[I", .fieldLink RX3 16 "LoopSchedulerModel" "busy" "[I", .fieldLink RX3 59 "LoopSchedulerModel" "interval" "I", .methodLink RX3 51 yX3_isIn, .static yX3_isIn, .initialized RX3, .code yX3_isIn cX3_isIn 3 (some .boolean), .methodLink RX3 55 yX3_no, .instanceMethod yX3_no, .selects RX3 yX3_no yX3_no, .code yX3_no cX3_no 2 (some .int)] ++ wsX30)
def wsX3_addDependence : List Cond := .code yX3_addDependence cX3_addDependence 5 (some .int) :: ([.fieldLink RX3 44 "LoopSchedulerModel" "thrown" "I", .fieldLink RX3 66 "LoopSchedulerModel" "dependences" "I", .fieldLink RX3 19 "LoopSchedulerModel" "froms" "[I", .fieldLink RX3 22 "LoopSchedulerModel" "tos" "[I", .fieldLink RX3 25 "LoopSchedulerModel" "delays" "[I", .fieldLink RX3 28 "LoopSchedulerModel" "distances" "[I", .fieldLink RX3 59 "LoopSchedulerModel" "interval" "I", .methodLink RX3 62 yX3_isOperation, .instanceMethod yX3_isOperation, .selects RX3 yX3_isOperation yX3_isOperation, .initialized RX3, .code yX3_isOperation cX3_isOperation 2 (some .boolean), .fieldLink RX3 48 "LoopSchedulerModel" "operations" "I", .methodLink RX3 51 yX3_isIn, .static yX3_isIn, .code yX3_isIn cX3_isIn 3 (some .boolean), .methodLink RX3 55 yX3_no, .instanceMethod yX3_no, .selects RX3 yX3_no yX3_no, .code yX3_no cX3_no 2 (some .int)] ++ wsX30)
def wsX3_setDelay : List Cond := .code yX3_setDelay cX3_setDelay 4 (some .int) :: ([.fieldLink RX3 44 "LoopSchedulerModel" "thrown" "I", .fieldLink RX3 66 "LoopSchedulerModel" "dependences" "I", .fieldLink RX3 25 "LoopSchedulerModel" "delays" "[I", .fieldLink RX3 59 "LoopSchedulerModel" "interval" "I", .methodLink RX3 51 yX3_isIn, .static yX3_isIn, .initialized RX3, .code yX3_isIn cX3_isIn 3 (some .boolean), .methodLink RX3 55 yX3_no, .instanceMethod yX3_no, .selects RX3 yX3_no yX3_no, .code yX3_no cX3_no 2 (some .int)] ++ wsX30)
def wsX3_operationCount : List Cond := .code yX3_operationCount cX3_operationCount 1 (some .int) :: ([.fieldLink RX3 44 "LoopSchedulerModel" "thrown" "I", .fieldLink RX3 48 "LoopSchedulerModel" "operations" "I"] ++ wsX30)
def wsX3_dependenceCount : List Cond := .code yX3_dependenceCount cX3_dependenceCount 1 (some .int) :: ([.fieldLink RX3 44 "LoopSchedulerModel" "thrown" "I", .fieldLink RX3 66 "LoopSchedulerModel" "dependences" "I"] ++ wsX30)
def wsX3_byResources : List Cond := .code yX3_byResources cX3_byResources 5 (some .int) :: ([.fieldLink RX3 48 "LoopSchedulerModel" "operations" "I", .fieldLink RX3 13 "LoopSchedulerModel" "kinds" "[I", .fieldLink RX3 16 "LoopSchedulerModel" "busy" "[I", .fieldLink RX3 7 "LoopSchedulerModel" "units" "[I"] ++ wsX30)
def wsX3_resourceBound : List Cond := .code yX3_resourceBound cX3_resourceBound 1 (some .int) :: ([.fieldLink RX3 44 "LoopSchedulerModel" "thrown" "I", .methodLink RX3 69 yX3_byResources, .instanceMethod yX3_byResources, .selects RX3 yX3_byResources yX3_byResources, .initialized RX3, .code yX3_byResources cX3_byResources 5 (some .int), .fieldLink RX3 48 "LoopSchedulerModel" "operations" "I", .fieldLink RX3 13 "LoopSchedulerModel" "kinds" "[I", .fieldLink RX3 16 "LoopSchedulerModel" "busy" "[I", .fieldLink RX3 7 "LoopSchedulerModel" "units" "[I"] ++ wsX30)
def wsX3_lengthOf : List Cond := .code yX3_lengthOf cX3_lengthOf 3 (some .int) :: ([.fieldLink RX3 25 "LoopSchedulerModel" "delays" "[I", .fieldLink RX3 28 "LoopSchedulerModel" "distances" "[I"] ++ wsX30)
def wsX3_grow : List Cond := .code yX3_grow cX3_grow 5 (some .boolean) :: ([.fieldLink RX3 66 "LoopSchedulerModel" "dependences" "I", .fieldLink RX3 34 "LoopSchedulerModel" "heights" "[I", .fieldLink RX3 22 "LoopSchedulerModel" "tos" "[I", .fieldLink RX3 19 "LoopSchedulerModel" "froms" "[I", .methodLink RX3 76 yX3_lengthOf, .instanceMethod yX3_lengthOf, .selects RX3 yX3_lengthOf yX3_lengthOf, .initialized RX3, .code yX3_lengthOf cX3_lengthOf 3 (some .int), .fieldLink RX3 25 "LoopSchedulerModel" "delays" "[I", .fieldLink RX3 28 "LoopSchedulerModel" "distances" "[I"] ++ wsX30)
def wsX3_findHeights : List Cond := .code yX3_findHeights cX3_findHeights 3 (some .boolean) :: ([.fieldLink RX3 48 "LoopSchedulerModel" "operations" "I", .fieldLink RX3 34 "LoopSchedulerModel" "heights" "[I", .methodLink RX3 73 yX3_grow, .instanceMethod yX3_grow, .selects RX3 yX3_grow yX3_grow, .initialized RX3, .code yX3_grow cX3_grow 5 (some .boolean), .fieldLink RX3 66 "LoopSchedulerModel" "dependences" "I", .fieldLink RX3 22 "LoopSchedulerModel" "tos" "[I", .fieldLink RX3 19 "LoopSchedulerModel" "froms" "[I", .methodLink RX3 76 yX3_lengthOf, .instanceMethod yX3_lengthOf, .selects RX3 yX3_lengthOf yX3_lengthOf, .code yX3_lengthOf cX3_lengthOf 3 (some .int), .fieldLink RX3 25 "LoopSchedulerModel" "delays" "[I", .fieldLink RX3 28 "LoopSchedulerModel" "distances" "[I"] ++ wsX30)
def wsX3_byRecurrences : List Cond := .code yX3_byRecurrences cX3_byRecurrences 2 (some .int) :: ([.methodLink RX3 80 yX3_findHeights, .instanceMethod yX3_findHeights, .selects RX3 yX3_findHeights yX3_findHeights, .initialized RX3, .code yX3_findHeights cX3_findHeights 3 (some .boolean), .fieldLink RX3 48 "LoopSchedulerModel" "operations" "I", .fieldLink RX3 34 "LoopSchedulerModel" "heights" "[I", .methodLink RX3 73 yX3_grow, .instanceMethod yX3_grow, .selects RX3 yX3_grow yX3_grow, .code yX3_grow cX3_grow 5 (some .boolean), .fieldLink RX3 66 "LoopSchedulerModel" "dependences" "I", .fieldLink RX3 22 "LoopSchedulerModel" "tos" "[I", .fieldLink RX3 19 "LoopSchedulerModel" "froms" "[I", .methodLink RX3 76 yX3_lengthOf, .instanceMethod yX3_lengthOf, .selects RX3 yX3_lengthOf yX3_lengthOf, .code yX3_lengthOf cX3_lengthOf 3 (some .int), .fieldLink RX3 25 "LoopSchedulerModel" "delays" "[I", .fieldLink RX3 28 "LoopSchedulerModel" "distances" "[I"] ++ wsX30)
def wsX3_recurrenceBound_r1 : List Cond := [Cond.fieldLink RX3 44 "LoopSchedulerModel" "thrown" "I", Cond.methodLink RX3 83 yX3_byRecurrences, Cond.instanceMethod yX3_byRecurrences, Cond.selects RX3 yX3_byRecurrences yX3_byRecurrences, Cond.initialized RX3, Cond.code yX3_byRecurrences cX3_byRecurrences 2 (some .int), Cond.methodLink RX3 80 yX3_findHeights, Cond.instanceMethod yX3_findHeights, Cond.selects RX3 yX3_findHeights yX3_findHeights, Cond.code yX3_findHeights cX3_findHeights 3 (some .boolean), Cond.fieldLink RX3 48 "LoopSchedulerModel" "operations" "I", Cond.fieldLink RX3 34 "LoopSchedulerModel" "heights" "[I", Cond.methodLink RX3 73 yX3_grow, Cond.instanceMethod yX3_grow, Cond.selects RX3 yX3_grow yX3_grow, Cond.code yX3_grow cX3_grow 5 (some .boolean), Cond.fieldLink RX3 66 "LoopSchedulerModel" "dependences" "I", Cond.fieldLink RX3 22 "LoopSchedulerModel" "tos" "[I", Cond.fieldLink RX3 19 "LoopSchedulerModel" "froms" "[I", Cond.methodLink RX3 76 yX3_lengthOf, Cond.instanceMethod yX3_lengthOf, Cond.selects RX3 yX3_lengthOf yX3_lengthOf, Cond.code yX3_lengthOf cX3_lengthOf 3 (some .int), Cond.fieldLink RX3 25 "LoopSchedulerModel" "delays" "[I"]
def wsX3_recurrenceBound_r2 : List Cond := [Cond.fieldLink RX3 28 "LoopSchedulerModel" "distances" "[I"]
def wsX3_recurrenceBound : List Cond := .code yX3_recurrenceBound cX3_recurrenceBound 1 (some .int) :: ((wsX3_recurrenceBound_r1 ++ wsX3_recurrenceBound_r2) ++ wsX30)
def wsX3_height_r1 : List Cond := [Cond.fieldLink RX3 44 "LoopSchedulerModel" "thrown" "I", Cond.fieldLink RX3 34 "LoopSchedulerModel" "heights" "[I", Cond.methodLink RX3 62 yX3_isOperation, Cond.instanceMethod yX3_isOperation, Cond.selects RX3 yX3_isOperation yX3_isOperation, Cond.initialized RX3, Cond.code yX3_isOperation cX3_isOperation 2 (some .boolean), Cond.fieldLink RX3 48 "LoopSchedulerModel" "operations" "I", Cond.methodLink RX3 51 yX3_isIn, Cond.static yX3_isIn, Cond.code yX3_isIn cX3_isIn 3 (some .boolean), Cond.methodLink RX3 55 yX3_no, Cond.instanceMethod yX3_no, Cond.selects RX3 yX3_no yX3_no, Cond.code yX3_no cX3_no 2 (some .int), Cond.methodLink RX3 83 yX3_byRecurrences, Cond.instanceMethod yX3_byRecurrences, Cond.selects RX3 yX3_byRecurrences yX3_byRecurrences, Cond.code yX3_byRecurrences cX3_byRecurrences 2 (some .int), Cond.methodLink RX3 80 yX3_findHeights, Cond.instanceMethod yX3_findHeights, Cond.selects RX3 yX3_findHeights yX3_findHeights, Cond.code yX3_findHeights cX3_findHeights 3 (some .boolean), Cond.methodLink RX3 73 yX3_grow]
def wsX3_height_r2 : List Cond := [Cond.instanceMethod yX3_grow, Cond.selects RX3 yX3_grow yX3_grow, Cond.code yX3_grow cX3_grow 5 (some .boolean), Cond.fieldLink RX3 66 "LoopSchedulerModel" "dependences" "I", Cond.fieldLink RX3 22 "LoopSchedulerModel" "tos" "[I", Cond.fieldLink RX3 19 "LoopSchedulerModel" "froms" "[I", Cond.methodLink RX3 76 yX3_lengthOf, Cond.instanceMethod yX3_lengthOf, Cond.selects RX3 yX3_lengthOf yX3_lengthOf, Cond.code yX3_lengthOf cX3_lengthOf 3 (some .int), Cond.fieldLink RX3 25 "LoopSchedulerModel" "delays" "[I", Cond.fieldLink RX3 28 "LoopSchedulerModel" "distances" "[I"]
def wsX3_height : List Cond := .code yX3_height cX3_height 4 (some .int) :: ((wsX3_height_r1 ++ wsX3_height_r2) ++ wsX30)
def wsX3_takenIn : List Cond := .code yX3_takenIn cX3_takenIn 7 (some .int) :: ([.fieldLink RX3 48 "LoopSchedulerModel" "operations" "I", .fieldLink RX3 16 "LoopSchedulerModel" "busy" "[I", .fieldLink RX3 37 "LoopSchedulerModel" "isPlaced" "[Z", .fieldLink RX3 13 "LoopSchedulerModel" "kinds" "[I", .fieldLink RX3 31 "LoopSchedulerModel" "times" "[I"] ++ wsX30)
def wsX3_count : List Cond := .code yX3_count cX3_count 7 (some .boolean) :: ([.fieldLink RX3 16 "LoopSchedulerModel" "busy" "[I", .fieldLink RX3 37 "LoopSchedulerModel" "isPlaced" "[Z", .fieldLink RX3 13 "LoopSchedulerModel" "kinds" "[I", .fieldLink RX3 31 "LoopSchedulerModel" "times" "[I", .fieldLink RX3 41 "LoopSchedulerModel" "counts" "[I", .fieldLink RX3 7 "LoopSchedulerModel" "units" "[I"] ++ wsX30)
def wsX3_fits : List Cond := .code yX3_fits cX3_fits 4 (some .boolean) :: ([.fieldLink RX3 48 "LoopSchedulerModel" "operations" "I", .methodLink RX3 86 yX3_count, .instanceMethod yX3_count, .selects RX3 yX3_count yX3_count, .initialized RX3, .code yX3_count cX3_count 7 (some .boolean), .fieldLink RX3 16 "LoopSchedulerModel" "busy" "[I", .fieldLink RX3 37 "LoopSchedulerModel" "isPlaced" "[Z", .fieldLink RX3 13 "LoopSchedulerModel" "kinds" "[I", .fieldLink RX3 31 "LoopSchedulerModel" "times" "[I", .fieldLink RX3 41 "LoopSchedulerModel" "counts" "[I", .fieldLink RX3 7 "LoopSchedulerModel" "units" "[I"] ++ wsX30)
def wsX3_next : List Cond := .code yX3_next cX3_next 3 (some .int) :: ([.fieldLink RX3 48 "LoopSchedulerModel" "operations" "I", .fieldLink RX3 37 "LoopSchedulerModel" "isPlaced" "[Z", .fieldLink RX3 34 "LoopSchedulerModel" "heights" "[I"] ++ wsX30)
def wsX3_place_r1 : List Cond := [Cond.constant RX3 96 (1000000), Cond.fieldLink RX3 66 "LoopSchedulerModel" "dependences" "I", Cond.fieldLink RX3 22 "LoopSchedulerModel" "tos" "[I", Cond.fieldLink RX3 37 "LoopSchedulerModel" "isPlaced" "[Z", Cond.fieldLink RX3 19 "LoopSchedulerModel" "froms" "[I", Cond.fieldLink RX3 31 "LoopSchedulerModel" "times" "[I", Cond.methodLink RX3 97 Lib.Math.max.name, Cond.static Lib.Math.max.name, Cond.initialized "java/lang/Math", Cond.code Lib.Math.max.name Lib.Math.max.code 2 (some .int), Cond.methodLink RX3 102 Lib.Math.min.name, Cond.static Lib.Math.min.name, Cond.code Lib.Math.min.name Lib.Math.min.code 2 (some .int), Cond.methodLink RX3 76 yX3_lengthOf, Cond.instanceMethod yX3_lengthOf, Cond.selects RX3 yX3_lengthOf yX3_lengthOf, Cond.initialized RX3, Cond.code yX3_lengthOf cX3_lengthOf 3 (some .int), Cond.fieldLink RX3 25 "LoopSchedulerModel" "delays" "[I", Cond.fieldLink RX3 28 "LoopSchedulerModel" "distances" "[I", Cond.methodLink RX3 105 yX3_fits, Cond.instanceMethod yX3_fits, Cond.selects RX3 yX3_fits yX3_fits, Cond.code yX3_fits cX3_fits 4 (some .boolean)]
def wsX3_place_r2 : List Cond := [Cond.fieldLink RX3 48 "LoopSchedulerModel" "operations" "I", Cond.methodLink RX3 86 yX3_count, Cond.instanceMethod yX3_count, Cond.selects RX3 yX3_count yX3_count, Cond.code yX3_count cX3_count 7 (some .boolean), Cond.fieldLink RX3 16 "LoopSchedulerModel" "busy" "[I", Cond.fieldLink RX3 13 "LoopSchedulerModel" "kinds" "[I", Cond.fieldLink RX3 41 "LoopSchedulerModel" "counts" "[I", Cond.fieldLink RX3 7 "LoopSchedulerModel" "units" "[I"]
def wsX3_place : List Cond := .code yX3_place cX3_place 6 (some .boolean) :: ((wsX3_place_r1 ++ wsX3_place_r2) ++ wsX30)
def wsX3_attempt_r1 : List Cond := [Cond.fieldLink RX3 48 "LoopSchedulerModel" "operations" "I", Cond.fieldLink RX3 37 "LoopSchedulerModel" "isPlaced" "[Z", Cond.methodLink RX3 80 yX3_findHeights, Cond.instanceMethod yX3_findHeights, Cond.selects RX3 yX3_findHeights yX3_findHeights, Cond.initialized RX3, Cond.code yX3_findHeights cX3_findHeights 3 (some .boolean), Cond.fieldLink RX3 34 "LoopSchedulerModel" "heights" "[I", Cond.methodLink RX3 73 yX3_grow, Cond.instanceMethod yX3_grow, Cond.selects RX3 yX3_grow yX3_grow, Cond.code yX3_grow cX3_grow 5 (some .boolean), Cond.fieldLink RX3 66 "LoopSchedulerModel" "dependences" "I", Cond.fieldLink RX3 22 "LoopSchedulerModel" "tos" "[I", Cond.fieldLink RX3 19 "LoopSchedulerModel" "froms" "[I", Cond.methodLink RX3 76 yX3_lengthOf, Cond.instanceMethod yX3_lengthOf, Cond.selects RX3 yX3_lengthOf yX3_lengthOf, Cond.code yX3_lengthOf cX3_lengthOf 3 (some .int), Cond.fieldLink RX3 25 "LoopSchedulerModel" "delays" "[I", Cond.fieldLink RX3 28 "LoopSchedulerModel" "distances" "[I", Cond.methodLink RX3 89 yX3_next, Cond.instanceMethod yX3_next, Cond.selects RX3 yX3_next yX3_next]
def wsX3_attempt_r2 : List Cond := [Cond.code yX3_next cX3_next 3 (some .int), Cond.methodLink RX3 92 yX3_place, Cond.instanceMethod yX3_place, Cond.selects RX3 yX3_place yX3_place, Cond.code yX3_place cX3_place 6 (some .boolean), Cond.constant RX3 96 (1000000), Cond.fieldLink RX3 31 "LoopSchedulerModel" "times" "[I", Cond.methodLink RX3 97 Lib.Math.max.name, Cond.static Lib.Math.max.name, Cond.initialized "java/lang/Math", Cond.code Lib.Math.max.name Lib.Math.max.code 2 (some .int), Cond.methodLink RX3 102 Lib.Math.min.name, Cond.static Lib.Math.min.name, Cond.code Lib.Math.min.name Lib.Math.min.code 2 (some .int), Cond.methodLink RX3 105 yX3_fits, Cond.instanceMethod yX3_fits, Cond.selects RX3 yX3_fits yX3_fits, Cond.code yX3_fits cX3_fits 4 (some .boolean), Cond.methodLink RX3 86 yX3_count, Cond.instanceMethod yX3_count, Cond.selects RX3 yX3_count yX3_count, Cond.code yX3_count cX3_count 7 (some .boolean), Cond.fieldLink RX3 16 "LoopSchedulerModel" "busy" "[I", Cond.fieldLink RX3 13 "LoopSchedulerModel" "kinds" "[I"]
def wsX3_attempt_r3 : List Cond := [Cond.fieldLink RX3 41 "LoopSchedulerModel" "counts" "[I", Cond.fieldLink RX3 7 "LoopSchedulerModel" "units" "[I"]
def wsX3_attempt : List Cond := .code yX3_attempt cX3_attempt 3 (some .boolean) :: ((wsX3_attempt_r1 ++ (wsX3_attempt_r2 ++ wsX3_attempt_r3)) ++ wsX30)
def wsX3_schedule_r1 : List Cond := [Cond.fieldLink RX3 44 "LoopSchedulerModel" "thrown" "I", Cond.fieldLink RX3 108 "LoopSchedulerModel" "attempts" "I", Cond.fieldLink RX3 59 "LoopSchedulerModel" "interval" "I", Cond.methodLink RX3 97 Lib.Math.max.name, Cond.static Lib.Math.max.name, Cond.initialized "java/lang/Math", Cond.code Lib.Math.max.name Lib.Math.max.code 2 (some .int), Cond.methodLink RX3 51 yX3_isIn, Cond.static yX3_isIn, Cond.initialized RX3, Cond.code yX3_isIn cX3_isIn 3 (some .boolean), Cond.methodLink RX3 55 yX3_no, Cond.instanceMethod yX3_no, Cond.selects RX3 yX3_no yX3_no, Cond.code yX3_no cX3_no 2 (some .int), Cond.methodLink RX3 83 yX3_byRecurrences, Cond.instanceMethod yX3_byRecurrences, Cond.selects RX3 yX3_byRecurrences yX3_byRecurrences, Cond.code yX3_byRecurrences cX3_byRecurrences 2 (some .int), Cond.methodLink RX3 80 yX3_findHeights, Cond.instanceMethod yX3_findHeights, Cond.selects RX3 yX3_findHeights yX3_findHeights, Cond.code yX3_findHeights cX3_findHeights 3 (some .boolean), Cond.fieldLink RX3 48 "LoopSchedulerModel" "operations" "I"]
def wsX3_schedule_r2 : List Cond := [Cond.fieldLink RX3 34 "LoopSchedulerModel" "heights" "[I", Cond.methodLink RX3 73 yX3_grow, Cond.instanceMethod yX3_grow, Cond.selects RX3 yX3_grow yX3_grow, Cond.code yX3_grow cX3_grow 5 (some .boolean), Cond.fieldLink RX3 66 "LoopSchedulerModel" "dependences" "I", Cond.fieldLink RX3 22 "LoopSchedulerModel" "tos" "[I", Cond.fieldLink RX3 19 "LoopSchedulerModel" "froms" "[I", Cond.methodLink RX3 76 yX3_lengthOf, Cond.instanceMethod yX3_lengthOf, Cond.selects RX3 yX3_lengthOf yX3_lengthOf, Cond.code yX3_lengthOf cX3_lengthOf 3 (some .int), Cond.fieldLink RX3 25 "LoopSchedulerModel" "delays" "[I", Cond.fieldLink RX3 28 "LoopSchedulerModel" "distances" "[I", Cond.methodLink RX3 69 yX3_byResources, Cond.instanceMethod yX3_byResources, Cond.selects RX3 yX3_byResources yX3_byResources, Cond.code yX3_byResources cX3_byResources 5 (some .int), Cond.fieldLink RX3 13 "LoopSchedulerModel" "kinds" "[I", Cond.fieldLink RX3 16 "LoopSchedulerModel" "busy" "[I", Cond.fieldLink RX3 7 "LoopSchedulerModel" "units" "[I", Cond.methodLink RX3 111 yX3_attempt, Cond.instanceMethod yX3_attempt, Cond.selects RX3 yX3_attempt yX3_attempt]
def wsX3_schedule_r3 : List Cond := [Cond.code yX3_attempt cX3_attempt 3 (some .boolean), Cond.fieldLink RX3 37 "LoopSchedulerModel" "isPlaced" "[Z", Cond.methodLink RX3 89 yX3_next, Cond.instanceMethod yX3_next, Cond.selects RX3 yX3_next yX3_next, Cond.code yX3_next cX3_next 3 (some .int), Cond.methodLink RX3 92 yX3_place, Cond.instanceMethod yX3_place, Cond.selects RX3 yX3_place yX3_place, Cond.code yX3_place cX3_place 6 (some .boolean), Cond.constant RX3 96 (1000000), Cond.fieldLink RX3 31 "LoopSchedulerModel" "times" "[I", Cond.methodLink RX3 102 Lib.Math.min.name, Cond.static Lib.Math.min.name, Cond.code Lib.Math.min.name Lib.Math.min.code 2 (some .int), Cond.methodLink RX3 105 yX3_fits, Cond.instanceMethod yX3_fits, Cond.selects RX3 yX3_fits yX3_fits, Cond.code yX3_fits cX3_fits 4 (some .boolean), Cond.methodLink RX3 86 yX3_count, Cond.instanceMethod yX3_count, Cond.selects RX3 yX3_count yX3_count, Cond.code yX3_count cX3_count 7 (some .boolean), Cond.fieldLink RX3 41 "LoopSchedulerModel" "counts" "[I"]
def wsX3_schedule : List Cond := .code yX3_schedule cX3_schedule 4 (some .int) :: ((wsX3_schedule_r1 ++ (wsX3_schedule_r2 ++ wsX3_schedule_r3)) ++ wsX30)
def wsX3_attempts : List Cond := .code yX3_attempts cX3_attempts 1 (some .int) :: ([.fieldLink RX3 44 "LoopSchedulerModel" "thrown" "I", .fieldLink RX3 108 "LoopSchedulerModel" "attempts" "I"] ++ wsX30)
def wsX3_hasSchedule : List Cond := .code yX3_hasSchedule cX3_hasSchedule 1 (some .boolean) :: ([.fieldLink RX3 44 "LoopSchedulerModel" "thrown" "I", .fieldLink RX3 59 "LoopSchedulerModel" "interval" "I"] ++ wsX30)
def wsX3_has : List Cond := .code yX3_has cX3_has 1 (some .boolean) :: ([.fieldLink RX3 59 "LoopSchedulerModel" "interval" "I", .fieldLink RX3 44 "LoopSchedulerModel" "thrown" "I"] ++ wsX30)
def wsX3_asks : List Cond := .code yX3_asks cX3_asks 2 (some .boolean) :: ([.fieldLink RX3 59 "LoopSchedulerModel" "interval" "I", .fieldLink RX3 44 "LoopSchedulerModel" "thrown" "I", .methodLink RX3 62 yX3_isOperation, .instanceMethod yX3_isOperation, .selects RX3 yX3_isOperation yX3_isOperation, .initialized RX3, .code yX3_isOperation cX3_isOperation 2 (some .boolean), .fieldLink RX3 48 "LoopSchedulerModel" "operations" "I", .methodLink RX3 51 yX3_isIn, .static yX3_isIn, .code yX3_isIn cX3_isIn 3 (some .boolean)] ++ wsX30)
def wsX3_interval : List Cond := .code yX3_interval cX3_interval 1 (some .int) :: ([.fieldLink RX3 59 "LoopSchedulerModel" "interval" "I", .methodLink RX3 114 yX3_has, .instanceMethod yX3_has, .selects RX3 yX3_has yX3_has, .initialized RX3, .code yX3_has cX3_has 1 (some .boolean), .fieldLink RX3 44 "LoopSchedulerModel" "thrown" "I"] ++ wsX30)
def wsX3_time : List Cond := .code yX3_time cX3_time 2 (some .int) :: ([.fieldLink RX3 31 "LoopSchedulerModel" "times" "[I", .methodLink RX3 118 yX3_asks, .instanceMethod yX3_asks, .selects RX3 yX3_asks yX3_asks, .initialized RX3, .code yX3_asks cX3_asks 2 (some .boolean), .fieldLink RX3 59 "LoopSchedulerModel" "interval" "I", .fieldLink RX3 44 "LoopSchedulerModel" "thrown" "I", .methodLink RX3 62 yX3_isOperation, .instanceMethod yX3_isOperation, .selects RX3 yX3_isOperation yX3_isOperation, .code yX3_isOperation cX3_isOperation 2 (some .boolean), .fieldLink RX3 48 "LoopSchedulerModel" "operations" "I", .methodLink RX3 51 yX3_isIn, .static yX3_isIn, .code yX3_isIn cX3_isIn 3 (some .boolean)] ++ wsX30)
def wsX3_isValid_r1 : List Cond := [Cond.fieldLink RX3 66 "LoopSchedulerModel" "dependences" "I", Cond.fieldLink RX3 31 "LoopSchedulerModel" "times" "[I", Cond.fieldLink RX3 22 "LoopSchedulerModel" "tos" "[I", Cond.fieldLink RX3 19 "LoopSchedulerModel" "froms" "[I", Cond.fieldLink RX3 59 "LoopSchedulerModel" "interval" "I", Cond.fieldLink RX3 48 "LoopSchedulerModel" "operations" "I", Cond.fieldLink RX3 37 "LoopSchedulerModel" "isPlaced" "[Z", Cond.methodLink RX3 76 yX3_lengthOf, Cond.instanceMethod yX3_lengthOf, Cond.selects RX3 yX3_lengthOf yX3_lengthOf, Cond.initialized RX3, Cond.code yX3_lengthOf cX3_lengthOf 3 (some .int), Cond.fieldLink RX3 25 "LoopSchedulerModel" "delays" "[I", Cond.fieldLink RX3 28 "LoopSchedulerModel" "distances" "[I", Cond.methodLink RX3 105 yX3_fits, Cond.instanceMethod yX3_fits, Cond.selects RX3 yX3_fits yX3_fits, Cond.code yX3_fits cX3_fits 4 (some .boolean), Cond.methodLink RX3 86 yX3_count, Cond.instanceMethod yX3_count, Cond.selects RX3 yX3_count yX3_count, Cond.code yX3_count cX3_count 7 (some .boolean), Cond.fieldLink RX3 16 "LoopSchedulerModel" "busy" "[I", Cond.fieldLink RX3 13 "LoopSchedulerModel" "kinds" "[I"]
def wsX3_isValid_r2 : List Cond := [Cond.fieldLink RX3 41 "LoopSchedulerModel" "counts" "[I", Cond.fieldLink RX3 7 "LoopSchedulerModel" "units" "[I"]
def wsX3_isValid : List Cond := .code yX3_isValid cX3_isValid 2 (some .boolean) :: ((wsX3_isValid_r1 ++ wsX3_isValid_r2) ++ wsX30)
def wsX3_isValidWith_r1 : List Cond := [Cond.fieldLink RX3 31 "LoopSchedulerModel" "times" "[I", Cond.methodLink RX3 121 yX3_isValid, Cond.instanceMethod yX3_isValid, Cond.selects RX3 yX3_isValid yX3_isValid, Cond.initialized RX3, Cond.code yX3_isValid cX3_isValid 2 (some .boolean), Cond.fieldLink RX3 66 "LoopSchedulerModel" "dependences" "I", Cond.fieldLink RX3 22 "LoopSchedulerModel" "tos" "[I", Cond.fieldLink RX3 19 "LoopSchedulerModel" "froms" "[I", Cond.fieldLink RX3 59 "LoopSchedulerModel" "interval" "I", Cond.fieldLink RX3 48 "LoopSchedulerModel" "operations" "I", Cond.fieldLink RX3 37 "LoopSchedulerModel" "isPlaced" "[Z", Cond.methodLink RX3 76 yX3_lengthOf, Cond.instanceMethod yX3_lengthOf, Cond.selects RX3 yX3_lengthOf yX3_lengthOf, Cond.code yX3_lengthOf cX3_lengthOf 3 (some .int), Cond.fieldLink RX3 25 "LoopSchedulerModel" "delays" "[I", Cond.fieldLink RX3 28 "LoopSchedulerModel" "distances" "[I", Cond.methodLink RX3 105 yX3_fits, Cond.instanceMethod yX3_fits, Cond.selects RX3 yX3_fits yX3_fits, Cond.code yX3_fits cX3_fits 4 (some .boolean), Cond.methodLink RX3 86 yX3_count, Cond.instanceMethod yX3_count]
def wsX3_isValidWith_r2 : List Cond := [Cond.selects RX3 yX3_count yX3_count, Cond.code yX3_count cX3_count 7 (some .boolean), Cond.fieldLink RX3 16 "LoopSchedulerModel" "busy" "[I", Cond.fieldLink RX3 13 "LoopSchedulerModel" "kinds" "[I", Cond.fieldLink RX3 41 "LoopSchedulerModel" "counts" "[I", Cond.fieldLink RX3 7 "LoopSchedulerModel" "units" "[I"]
def wsX3_isValidWith : List Cond := .code yX3_isValidWith cX3_isValidWith 5 (some .boolean) :: ((wsX3_isValidWith_r1 ++ wsX3_isValidWith_r2) ++ wsX30)
def wsX3_move_r1 : List Cond := [Cond.fieldLink RX3 59 "LoopSchedulerModel" "interval" "I", Cond.fieldLink RX3 44 "LoopSchedulerModel" "thrown" "I", Cond.fieldLink RX3 31 "LoopSchedulerModel" "times" "[I", Cond.methodLink RX3 62 yX3_isOperation, Cond.instanceMethod yX3_isOperation, Cond.selects RX3 yX3_isOperation yX3_isOperation, Cond.initialized RX3, Cond.code yX3_isOperation cX3_isOperation 2 (some .boolean), Cond.fieldLink RX3 48 "LoopSchedulerModel" "operations" "I", Cond.methodLink RX3 51 yX3_isIn, Cond.static yX3_isIn, Cond.code yX3_isIn cX3_isIn 3 (some .boolean), Cond.methodLink RX3 124 yX3_isValidWith, Cond.instanceMethod yX3_isValidWith, Cond.selects RX3 yX3_isValidWith yX3_isValidWith, Cond.code yX3_isValidWith cX3_isValidWith 5 (some .boolean), Cond.methodLink RX3 121 yX3_isValid, Cond.instanceMethod yX3_isValid, Cond.selects RX3 yX3_isValid yX3_isValid, Cond.code yX3_isValid cX3_isValid 2 (some .boolean), Cond.fieldLink RX3 66 "LoopSchedulerModel" "dependences" "I", Cond.fieldLink RX3 22 "LoopSchedulerModel" "tos" "[I", Cond.fieldLink RX3 19 "LoopSchedulerModel" "froms" "[I", Cond.fieldLink RX3 37 "LoopSchedulerModel" "isPlaced" "[Z"]
def wsX3_move_r2 : List Cond := [Cond.methodLink RX3 76 yX3_lengthOf, Cond.instanceMethod yX3_lengthOf, Cond.selects RX3 yX3_lengthOf yX3_lengthOf, Cond.code yX3_lengthOf cX3_lengthOf 3 (some .int), Cond.fieldLink RX3 25 "LoopSchedulerModel" "delays" "[I", Cond.fieldLink RX3 28 "LoopSchedulerModel" "distances" "[I", Cond.methodLink RX3 105 yX3_fits, Cond.instanceMethod yX3_fits, Cond.selects RX3 yX3_fits yX3_fits, Cond.code yX3_fits cX3_fits 4 (some .boolean), Cond.methodLink RX3 86 yX3_count, Cond.instanceMethod yX3_count, Cond.selects RX3 yX3_count yX3_count, Cond.code yX3_count cX3_count 7 (some .boolean), Cond.fieldLink RX3 16 "LoopSchedulerModel" "busy" "[I", Cond.fieldLink RX3 13 "LoopSchedulerModel" "kinds" "[I", Cond.fieldLink RX3 41 "LoopSchedulerModel" "counts" "[I", Cond.fieldLink RX3 7 "LoopSchedulerModel" "units" "[I"]
def wsX3_move : List Cond := .code yX3_move cX3_move 4 (some .boolean) :: ((wsX3_move_r1 ++ wsX3_move_r2) ++ wsX30)
def wsX3_freedom_r1 : List Cond := [Cond.methodLink RX3 118 yX3_asks, Cond.instanceMethod yX3_asks, Cond.selects RX3 yX3_asks yX3_asks, Cond.initialized RX3, Cond.code yX3_asks cX3_asks 2 (some .boolean), Cond.fieldLink RX3 59 "LoopSchedulerModel" "interval" "I", Cond.fieldLink RX3 44 "LoopSchedulerModel" "thrown" "I", Cond.methodLink RX3 62 yX3_isOperation, Cond.instanceMethod yX3_isOperation, Cond.selects RX3 yX3_isOperation yX3_isOperation, Cond.code yX3_isOperation cX3_isOperation 2 (some .boolean), Cond.fieldLink RX3 48 "LoopSchedulerModel" "operations" "I", Cond.methodLink RX3 51 yX3_isIn, Cond.static yX3_isIn, Cond.code yX3_isIn cX3_isIn 3 (some .boolean), Cond.methodLink RX3 124 yX3_isValidWith, Cond.instanceMethod yX3_isValidWith, Cond.selects RX3 yX3_isValidWith yX3_isValidWith, Cond.code yX3_isValidWith cX3_isValidWith 5 (some .boolean), Cond.fieldLink RX3 31 "LoopSchedulerModel" "times" "[I", Cond.methodLink RX3 121 yX3_isValid, Cond.instanceMethod yX3_isValid, Cond.selects RX3 yX3_isValid yX3_isValid, Cond.code yX3_isValid cX3_isValid 2 (some .boolean)]
def wsX3_freedom_r2 : List Cond := [Cond.fieldLink RX3 66 "LoopSchedulerModel" "dependences" "I", Cond.fieldLink RX3 22 "LoopSchedulerModel" "tos" "[I", Cond.fieldLink RX3 19 "LoopSchedulerModel" "froms" "[I", Cond.fieldLink RX3 37 "LoopSchedulerModel" "isPlaced" "[Z", Cond.methodLink RX3 76 yX3_lengthOf, Cond.instanceMethod yX3_lengthOf, Cond.selects RX3 yX3_lengthOf yX3_lengthOf, Cond.code yX3_lengthOf cX3_lengthOf 3 (some .int), Cond.fieldLink RX3 25 "LoopSchedulerModel" "delays" "[I", Cond.fieldLink RX3 28 "LoopSchedulerModel" "distances" "[I", Cond.methodLink RX3 105 yX3_fits, Cond.instanceMethod yX3_fits, Cond.selects RX3 yX3_fits yX3_fits, Cond.code yX3_fits cX3_fits 4 (some .boolean), Cond.methodLink RX3 86 yX3_count, Cond.instanceMethod yX3_count, Cond.selects RX3 yX3_count yX3_count, Cond.code yX3_count cX3_count 7 (some .boolean), Cond.fieldLink RX3 16 "LoopSchedulerModel" "busy" "[I", Cond.fieldLink RX3 13 "LoopSchedulerModel" "kinds" "[I", Cond.fieldLink RX3 41 "LoopSchedulerModel" "counts" "[I", Cond.fieldLink RX3 7 "LoopSchedulerModel" "units" "[I"]
def wsX3_freedom : List Cond := .code yX3_freedom cX3_freedom 4 (some .int) :: ((wsX3_freedom_r1 ++ wsX3_freedom_r2) ++ wsX30)
def wsX3_latest : List Cond := .code yX3_latest cX3_latest 3 (some .int) :: ([.fieldLink RX3 48 "LoopSchedulerModel" "operations" "I", .fieldLink RX3 31 "LoopSchedulerModel" "times" "[I", .methodLink RX3 97 Lib.Math.max.name, .static Lib.Math.max.name, .initialized "java/lang/Math", .code Lib.Math.max.name Lib.Math.max.code 2 (some .int)] ++ wsX30)
def wsX3_stageCount : List Cond := .code yX3_stageCount cX3_stageCount 1 (some .int) :: ([.fieldLink RX3 48 "LoopSchedulerModel" "operations" "I", .fieldLink RX3 59 "LoopSchedulerModel" "interval" "I", .methodLink RX3 127 yX3_latest, .instanceMethod yX3_latest, .selects RX3 yX3_latest yX3_latest, .initialized RX3, .code yX3_latest cX3_latest 3 (some .int), .fieldLink RX3 31 "LoopSchedulerModel" "times" "[I", .methodLink RX3 97 Lib.Math.max.name, .static Lib.Math.max.name, .initialized "java/lang/Math", .code Lib.Math.max.name Lib.Math.max.code 2 (some .int)] ++ wsX30)
def wsX3_stages : List Cond := .code yX3_stages cX3_stages 1 (some .int) :: ([.methodLink RX3 114 yX3_has, .instanceMethod yX3_has, .selects RX3 yX3_has yX3_has, .initialized RX3, .code yX3_has cX3_has 1 (some .boolean), .fieldLink RX3 59 "LoopSchedulerModel" "interval" "I", .fieldLink RX3 44 "LoopSchedulerModel" "thrown" "I", .methodLink RX3 130 yX3_stageCount, .instanceMethod yX3_stageCount, .selects RX3 yX3_stageCount yX3_stageCount, .code yX3_stageCount cX3_stageCount 1 (some .int), .fieldLink RX3 48 "LoopSchedulerModel" "operations" "I", .methodLink RX3 127 yX3_latest, .instanceMethod yX3_latest, .selects RX3 yX3_latest yX3_latest, .code yX3_latest cX3_latest 3 (some .int), .fieldLink RX3 31 "LoopSchedulerModel" "times" "[I", .methodLink RX3 97 Lib.Math.max.name, .static Lib.Math.max.name, .initialized "java/lang/Math", .code Lib.Math.max.name Lib.Math.max.code 2 (some .int)] ++ wsX30)
def wsX3_taken : List Cond := .code yX3_taken cX3_taken 4 (some .int) :: ([.fieldLink RX3 59 "LoopSchedulerModel" "interval" "I", .fieldLink RX3 44 "LoopSchedulerModel" "thrown" "I", .fieldLink RX3 48 "LoopSchedulerModel" "operations" "I", .fieldLink RX3 37 "LoopSchedulerModel" "isPlaced" "[Z", .methodLink RX3 51 yX3_isIn, .static yX3_isIn, .initialized RX3, .code yX3_isIn cX3_isIn 3 (some .boolean), .methodLink RX3 133 yX3_takenIn, .instanceMethod yX3_takenIn, .selects RX3 yX3_takenIn yX3_takenIn, .code yX3_takenIn cX3_takenIn 7 (some .int), .fieldLink RX3 16 "LoopSchedulerModel" "busy" "[I", .fieldLink RX3 13 "LoopSchedulerModel" "kinds" "[I", .fieldLink RX3 31 "LoopSchedulerModel" "times" "[I"] ++ wsX30)
def wsX3_lifeOf : List Cond := .code yX3_lifeOf cX3_lifeOf 4 (some .int) :: ([.fieldLink RX3 31 "LoopSchedulerModel" "times" "[I", .fieldLink RX3 66 "LoopSchedulerModel" "dependences" "I", .fieldLink RX3 19 "LoopSchedulerModel" "froms" "[I", .fieldLink RX3 22 "LoopSchedulerModel" "tos" "[I", .fieldLink RX3 59 "LoopSchedulerModel" "interval" "I", .fieldLink RX3 28 "LoopSchedulerModel" "distances" "[I", .methodLink RX3 97 Lib.Math.max.name, .static Lib.Math.max.name, .initialized "java/lang/Math", .code Lib.Math.max.name Lib.Math.max.code 2 (some .int)] ++ wsX30)
def wsX3_lifetime_r1 : List Cond := [Cond.methodLink RX3 118 yX3_asks, Cond.instanceMethod yX3_asks, Cond.selects RX3 yX3_asks yX3_asks, Cond.initialized RX3, Cond.code yX3_asks cX3_asks 2 (some .boolean), Cond.fieldLink RX3 59 "LoopSchedulerModel" "interval" "I", Cond.fieldLink RX3 44 "LoopSchedulerModel" "thrown" "I", Cond.methodLink RX3 62 yX3_isOperation, Cond.instanceMethod yX3_isOperation, Cond.selects RX3 yX3_isOperation yX3_isOperation, Cond.code yX3_isOperation cX3_isOperation 2 (some .boolean), Cond.fieldLink RX3 48 "LoopSchedulerModel" "operations" "I", Cond.methodLink RX3 51 yX3_isIn, Cond.static yX3_isIn, Cond.code yX3_isIn cX3_isIn 3 (some .boolean), Cond.methodLink RX3 137 yX3_lifeOf, Cond.instanceMethod yX3_lifeOf, Cond.selects RX3 yX3_lifeOf yX3_lifeOf, Cond.code yX3_lifeOf cX3_lifeOf 4 (some .int), Cond.fieldLink RX3 31 "LoopSchedulerModel" "times" "[I", Cond.fieldLink RX3 66 "LoopSchedulerModel" "dependences" "I", Cond.fieldLink RX3 19 "LoopSchedulerModel" "froms" "[I", Cond.fieldLink RX3 22 "LoopSchedulerModel" "tos" "[I", Cond.fieldLink RX3 28 "LoopSchedulerModel" "distances" "[I"]
def wsX3_lifetime_r2 : List Cond := [Cond.methodLink RX3 97 Lib.Math.max.name, Cond.static Lib.Math.max.name, Cond.initialized "java/lang/Math", Cond.code Lib.Math.max.name Lib.Math.max.code 2 (some .int)]
def wsX3_lifetime : List Cond := .code yX3_lifetime cX3_lifetime 2 (some .int) :: ((wsX3_lifetime_r1 ++ wsX3_lifetime_r2) ++ wsX30)
def wsX3_liveIn : List Cond := .code yX3_liveIn cX3_liveIn 5 (some .int) :: ([.fieldLink RX3 48 "LoopSchedulerModel" "operations" "I", .fieldLink RX3 31 "LoopSchedulerModel" "times" "[I", .fieldLink RX3 59 "LoopSchedulerModel" "interval" "I", .methodLink RX3 137 yX3_lifeOf, .instanceMethod yX3_lifeOf, .selects RX3 yX3_lifeOf yX3_lifeOf, .initialized RX3, .code yX3_lifeOf cX3_lifeOf 4 (some .int), .fieldLink RX3 66 "LoopSchedulerModel" "dependences" "I", .fieldLink RX3 19 "LoopSchedulerModel" "froms" "[I", .fieldLink RX3 22 "LoopSchedulerModel" "tos" "[I", .fieldLink RX3 28 "LoopSchedulerModel" "distances" "[I", .methodLink RX3 97 Lib.Math.max.name, .static Lib.Math.max.name, .initialized "java/lang/Math", .code Lib.Math.max.name Lib.Math.max.code 2 (some .int)] ++ wsX30)
def wsX3_live : List Cond := .code yX3_live cX3_live 2 (some .int) :: ([.fieldLink RX3 59 "LoopSchedulerModel" "interval" "I", .fieldLink RX3 44 "LoopSchedulerModel" "thrown" "I", .methodLink RX3 51 yX3_isIn, .static yX3_isIn, .initialized RX3, .code yX3_isIn cX3_isIn 3 (some .boolean), .methodLink RX3 140 yX3_liveIn, .instanceMethod yX3_liveIn, .selects RX3 yX3_liveIn yX3_liveIn, .code yX3_liveIn cX3_liveIn 5 (some .int), .fieldLink RX3 48 "LoopSchedulerModel" "operations" "I", .fieldLink RX3 31 "LoopSchedulerModel" "times" "[I", .methodLink RX3 137 yX3_lifeOf, .instanceMethod yX3_lifeOf, .selects RX3 yX3_lifeOf yX3_lifeOf, .code yX3_lifeOf cX3_lifeOf 4 (some .int), .fieldLink RX3 66 "LoopSchedulerModel" "dependences" "I", .fieldLink RX3 19 "LoopSchedulerModel" "froms" "[I", .fieldLink RX3 22 "LoopSchedulerModel" "tos" "[I", .fieldLink RX3 28 "LoopSchedulerModel" "distances" "[I", .methodLink RX3 97 Lib.Math.max.name, .static Lib.Math.max.name, .initialized "java/lang/Math", .code Lib.Math.max.name Lib.Math.max.code 2 (some .int)] ++ wsX30)
def wsX3_registers_r1 : List Cond := [Cond.fieldLink RX3 59 "LoopSchedulerModel" "interval" "I", Cond.methodLink RX3 97 Lib.Math.max.name, Cond.static Lib.Math.max.name, Cond.initialized "java/lang/Math", Cond.code Lib.Math.max.name Lib.Math.max.code 2 (some .int), Cond.methodLink RX3 140 yX3_liveIn, Cond.instanceMethod yX3_liveIn, Cond.selects RX3 yX3_liveIn yX3_liveIn, Cond.initialized RX3, Cond.code yX3_liveIn cX3_liveIn 5 (some .int), Cond.fieldLink RX3 48 "LoopSchedulerModel" "operations" "I", Cond.fieldLink RX3 31 "LoopSchedulerModel" "times" "[I", Cond.methodLink RX3 137 yX3_lifeOf, Cond.instanceMethod yX3_lifeOf, Cond.selects RX3 yX3_lifeOf yX3_lifeOf, Cond.code yX3_lifeOf cX3_lifeOf 4 (some .int), Cond.fieldLink RX3 66 "LoopSchedulerModel" "dependences" "I", Cond.fieldLink RX3 19 "LoopSchedulerModel" "froms" "[I", Cond.fieldLink RX3 22 "LoopSchedulerModel" "tos" "[I", Cond.fieldLink RX3 28 "LoopSchedulerModel" "distances" "[I", Cond.methodLink RX3 114 yX3_has, Cond.instanceMethod yX3_has, Cond.selects RX3 yX3_has yX3_has, Cond.code yX3_has cX3_has 1 (some .boolean)]
def wsX3_registers_r2 : List Cond := [Cond.fieldLink RX3 44 "LoopSchedulerModel" "thrown" "I"]
def wsX3_registers : List Cond := .code yX3_registers cX3_registers 3 (some .int) :: ((wsX3_registers_r1 ++ wsX3_registers_r2) ++ wsX30)
def wsX3_copiesOf : List Cond := .code yX3_copiesOf cX3_copiesOf 3 (some .int) :: ([.fieldLink RX3 59 "LoopSchedulerModel" "interval" "I", .methodLink RX3 137 yX3_lifeOf, .instanceMethod yX3_lifeOf, .selects RX3 yX3_lifeOf yX3_lifeOf, .initialized RX3, .code yX3_lifeOf cX3_lifeOf 4 (some .int), .fieldLink RX3 31 "LoopSchedulerModel" "times" "[I", .fieldLink RX3 66 "LoopSchedulerModel" "dependences" "I", .fieldLink RX3 19 "LoopSchedulerModel" "froms" "[I", .fieldLink RX3 22 "LoopSchedulerModel" "tos" "[I", .fieldLink RX3 28 "LoopSchedulerModel" "distances" "[I", .methodLink RX3 97 Lib.Math.max.name, .static Lib.Math.max.name, .initialized "java/lang/Math", .code Lib.Math.max.name Lib.Math.max.code 2 (some .int)] ++ wsX30)
def wsX3_copies_r1 : List Cond := [Cond.methodLink RX3 118 yX3_asks, Cond.instanceMethod yX3_asks, Cond.selects RX3 yX3_asks yX3_asks, Cond.initialized RX3, Cond.code yX3_asks cX3_asks 2 (some .boolean), Cond.fieldLink RX3 59 "LoopSchedulerModel" "interval" "I", Cond.fieldLink RX3 44 "LoopSchedulerModel" "thrown" "I", Cond.methodLink RX3 62 yX3_isOperation, Cond.instanceMethod yX3_isOperation, Cond.selects RX3 yX3_isOperation yX3_isOperation, Cond.code yX3_isOperation cX3_isOperation 2 (some .boolean), Cond.fieldLink RX3 48 "LoopSchedulerModel" "operations" "I", Cond.methodLink RX3 51 yX3_isIn, Cond.static yX3_isIn, Cond.code yX3_isIn cX3_isIn 3 (some .boolean), Cond.methodLink RX3 143 yX3_copiesOf, Cond.instanceMethod yX3_copiesOf, Cond.selects RX3 yX3_copiesOf yX3_copiesOf, Cond.code yX3_copiesOf cX3_copiesOf 3 (some .int), Cond.methodLink RX3 137 yX3_lifeOf, Cond.instanceMethod yX3_lifeOf, Cond.selects RX3 yX3_lifeOf yX3_lifeOf, Cond.code yX3_lifeOf cX3_lifeOf 4 (some .int), Cond.fieldLink RX3 31 "LoopSchedulerModel" "times" "[I"]
def wsX3_copies_r2 : List Cond := [Cond.fieldLink RX3 66 "LoopSchedulerModel" "dependences" "I", Cond.fieldLink RX3 19 "LoopSchedulerModel" "froms" "[I", Cond.fieldLink RX3 22 "LoopSchedulerModel" "tos" "[I", Cond.fieldLink RX3 28 "LoopSchedulerModel" "distances" "[I", Cond.methodLink RX3 97 Lib.Math.max.name, Cond.static Lib.Math.max.name, Cond.initialized "java/lang/Math", Cond.code Lib.Math.max.name Lib.Math.max.code 2 (some .int)]
def wsX3_copies : List Cond := .code yX3_copies cX3_copies 2 (some .int) :: ((wsX3_copies_r1 ++ wsX3_copies_r2) ++ wsX30)
def wsX3_unrolling_r1 : List Cond := [Cond.fieldLink RX3 48 "LoopSchedulerModel" "operations" "I", Cond.constantLong RX3 146 (1000000), Cond.constant RX3 96 (1000000), Cond.methodLink RX3 114 yX3_has, Cond.instanceMethod yX3_has, Cond.selects RX3 yX3_has yX3_has, Cond.initialized RX3, Cond.code yX3_has cX3_has 1 (some .boolean), Cond.fieldLink RX3 59 "LoopSchedulerModel" "interval" "I", Cond.fieldLink RX3 44 "LoopSchedulerModel" "thrown" "I", Cond.methodLink RX3 143 yX3_copiesOf, Cond.instanceMethod yX3_copiesOf, Cond.selects RX3 yX3_copiesOf yX3_copiesOf, Cond.code yX3_copiesOf cX3_copiesOf 3 (some .int), Cond.methodLink RX3 137 yX3_lifeOf, Cond.instanceMethod yX3_lifeOf, Cond.selects RX3 yX3_lifeOf yX3_lifeOf, Cond.code yX3_lifeOf cX3_lifeOf 4 (some .int), Cond.fieldLink RX3 31 "LoopSchedulerModel" "times" "[I", Cond.fieldLink RX3 66 "LoopSchedulerModel" "dependences" "I", Cond.fieldLink RX3 19 "LoopSchedulerModel" "froms" "[I", Cond.fieldLink RX3 22 "LoopSchedulerModel" "tos" "[I", Cond.fieldLink RX3 28 "LoopSchedulerModel" "distances" "[I", Cond.methodLink RX3 97 Lib.Math.max.name]
def wsX3_unrolling_r2 : List Cond := [Cond.static Lib.Math.max.name, Cond.initialized "java/lang/Math", Cond.code Lib.Math.max.name Lib.Math.max.code 2 (some .int)]
def wsX3_unrolling : List Cond := .code yX3_unrolling cX3_unrolling 6 (some .int) :: ((wsX3_unrolling_r1 ++ wsX3_unrolling_r2) ++ wsX30)
def wsX3_cycles : List Cond := .code yX3_cycles cX3_cycles 2 (some .int) :: ([.fieldLink RX3 59 "LoopSchedulerModel" "interval" "I", .fieldLink RX3 44 "LoopSchedulerModel" "thrown" "I", .fieldLink RX3 48 "LoopSchedulerModel" "operations" "I", .methodLink RX3 51 yX3_isIn, .static yX3_isIn, .initialized RX3, .code yX3_isIn cX3_isIn 3 (some .boolean), .methodLink RX3 127 yX3_latest, .instanceMethod yX3_latest, .selects RX3 yX3_latest yX3_latest, .code yX3_latest cX3_latest 3 (some .int), .fieldLink RX3 31 "LoopSchedulerModel" "times" "[I", .methodLink RX3 97 Lib.Math.max.name, .static Lib.Math.max.name, .initialized "java/lang/Math", .code Lib.Math.max.name Lib.Math.max.code 2 (some .int)] ++ wsX30)
def wsX3_issueAt : List Cond := .code yX3_issueAt cX3_issueAt 7 (some .int) :: ([.fieldLink RX3 48 "LoopSchedulerModel" "operations" "I", .fieldLink RX3 31 "LoopSchedulerModel" "times" "[I", .fieldLink RX3 59 "LoopSchedulerModel" "interval" "I"] ++ wsX30)
def wsX3_issuedIn : List Cond := .code yX3_issuedIn cX3_issuedIn 6 (some .int) :: ([.fieldLink RX3 48 "LoopSchedulerModel" "operations" "I", .fieldLink RX3 31 "LoopSchedulerModel" "times" "[I", .fieldLink RX3 59 "LoopSchedulerModel" "interval" "I"] ++ wsX30)
def wsX3_issued : List Cond := .code yX3_issued cX3_issued 3 (some .int) :: ([.fieldLink RX3 59 "LoopSchedulerModel" "interval" "I", .fieldLink RX3 44 "LoopSchedulerModel" "thrown" "I", .methodLink RX3 51 yX3_isIn, .static yX3_isIn, .initialized RX3, .code yX3_isIn cX3_isIn 3 (some .boolean), .methodLink RX3 148 yX3_issuedIn, .instanceMethod yX3_issuedIn, .selects RX3 yX3_issuedIn yX3_issuedIn, .code yX3_issuedIn cX3_issuedIn 6 (some .int), .fieldLink RX3 48 "LoopSchedulerModel" "operations" "I", .fieldLink RX3 31 "LoopSchedulerModel" "times" "[I"] ++ wsX30)
def wsX3_issue : List Cond := .code yX3_issue cX3_issue 4 (some .int) :: ([.fieldLink RX3 59 "LoopSchedulerModel" "interval" "I", .fieldLink RX3 44 "LoopSchedulerModel" "thrown" "I", .methodLink RX3 51 yX3_isIn, .static yX3_isIn, .initialized RX3, .code yX3_isIn cX3_isIn 3 (some .boolean), .methodLink RX3 148 yX3_issuedIn, .instanceMethod yX3_issuedIn, .selects RX3 yX3_issuedIn yX3_issuedIn, .code yX3_issuedIn cX3_issuedIn 6 (some .int), .fieldLink RX3 48 "LoopSchedulerModel" "operations" "I", .fieldLink RX3 31 "LoopSchedulerModel" "times" "[I", .methodLink RX3 151 yX3_issueAt, .instanceMethod yX3_issueAt, .selects RX3 yX3_issueAt yX3_issueAt, .code yX3_issueAt cX3_issueAt 7 (some .int)] ++ wsX30)
def wsX3_prologue_r1 : List Cond := [Cond.fieldLink RX3 59 "LoopSchedulerModel" "interval" "I", Cond.methodLink RX3 114 yX3_has, Cond.instanceMethod yX3_has, Cond.selects RX3 yX3_has yX3_has, Cond.initialized RX3, Cond.code yX3_has cX3_has 1 (some .boolean), Cond.fieldLink RX3 44 "LoopSchedulerModel" "thrown" "I", Cond.methodLink RX3 130 yX3_stageCount, Cond.instanceMethod yX3_stageCount, Cond.selects RX3 yX3_stageCount yX3_stageCount, Cond.code yX3_stageCount cX3_stageCount 1 (some .int), Cond.fieldLink RX3 48 "LoopSchedulerModel" "operations" "I", Cond.methodLink RX3 127 yX3_latest, Cond.instanceMethod yX3_latest, Cond.selects RX3 yX3_latest yX3_latest, Cond.code yX3_latest cX3_latest 3 (some .int), Cond.fieldLink RX3 31 "LoopSchedulerModel" "times" "[I", Cond.methodLink RX3 97 Lib.Math.max.name, Cond.static Lib.Math.max.name, Cond.initialized "java/lang/Math", Cond.code Lib.Math.max.name Lib.Math.max.code 2 (some .int), Cond.methodLink RX3 148 yX3_issuedIn, Cond.instanceMethod yX3_issuedIn, Cond.selects RX3 yX3_issuedIn yX3_issuedIn]
def wsX3_prologue_r2 : List Cond := [Cond.code yX3_issuedIn cX3_issuedIn 6 (some .int)]
def wsX3_prologue : List Cond := .code yX3_prologue cX3_prologue 3 (some .int) :: ((wsX3_prologue_r1 ++ wsX3_prologue_r2) ++ wsX30)
def wsX3_epilogue_r1 : List Cond := [Cond.fieldLink RX3 59 "LoopSchedulerModel" "interval" "I", Cond.methodLink RX3 97 Lib.Math.max.name, Cond.static Lib.Math.max.name, Cond.initialized "java/lang/Math", Cond.code Lib.Math.max.name Lib.Math.max.code 2 (some .int), Cond.methodLink RX3 114 yX3_has, Cond.instanceMethod yX3_has, Cond.selects RX3 yX3_has yX3_has, Cond.initialized RX3, Cond.code yX3_has cX3_has 1 (some .boolean), Cond.fieldLink RX3 44 "LoopSchedulerModel" "thrown" "I", Cond.methodLink RX3 127 yX3_latest, Cond.instanceMethod yX3_latest, Cond.selects RX3 yX3_latest yX3_latest, Cond.code yX3_latest cX3_latest 3 (some .int), Cond.fieldLink RX3 48 "LoopSchedulerModel" "operations" "I", Cond.fieldLink RX3 31 "LoopSchedulerModel" "times" "[I", Cond.methodLink RX3 130 yX3_stageCount, Cond.instanceMethod yX3_stageCount, Cond.selects RX3 yX3_stageCount yX3_stageCount, Cond.code yX3_stageCount cX3_stageCount 1 (some .int), Cond.methodLink RX3 148 yX3_issuedIn, Cond.instanceMethod yX3_issuedIn, Cond.selects RX3 yX3_issuedIn yX3_issuedIn]
def wsX3_epilogue_r2 : List Cond := [Cond.code yX3_issuedIn cX3_issuedIn 6 (some .int)]
def wsX3_epilogue : List Cond := .code yX3_epilogue cX3_epilogue 4 (some .int) :: ((wsX3_epilogue_r1 ++ wsX3_epilogue_r2) ++ wsX30)
def wsX3_digest : List Cond := .code yX3_digest cX3_digest 4 (some .long) :: ([.fieldLink RX3 44 "LoopSchedulerModel" "thrown" "I", .constantLong RX3 154 (79), .constantLong RX3 156 (31), .fieldLink RX3 7 "LoopSchedulerModel" "units" "[I", .fieldLink RX3 48 "LoopSchedulerModel" "operations" "I", .fieldLink RX3 13 "LoopSchedulerModel" "kinds" "[I", .fieldLink RX3 16 "LoopSchedulerModel" "busy" "[I", .fieldLink RX3 66 "LoopSchedulerModel" "dependences" "I", .fieldLink RX3 19 "LoopSchedulerModel" "froms" "[I", .fieldLink RX3 22 "LoopSchedulerModel" "tos" "[I", .fieldLink RX3 25 "LoopSchedulerModel" "delays" "[I", .fieldLink RX3 28 "LoopSchedulerModel" "distances" "[I", .fieldLink RX3 59 "LoopSchedulerModel" "interval" "I", .fieldLink RX3 31 "LoopSchedulerModel" "times" "[I"] ++ wsX30)
def wsJ9_max_7cf53 : List Cond := .code yJ9_max_7cf53 cJ9_max_7cf53 2 (some .int) :: ([])
def wsJ9_min_7cf53 : List Cond := .code yJ9_min_7cf53 cJ9_min_7cf53 2 (some .int) :: ([])
def wsL_setUnits_r1 : List Cond := [Cond.classLink RL 13 "java/lang/IndexOutOfBoundsException", Cond.classLink RL 15 "java/lang/IllegalArgumentException", Cond.methodLink RL 7 yX2_setUnits, Cond.instanceMethod yX2_setUnits, Cond.selects RX2 yX2_setUnits yX2_setUnits, Cond.initialized RX2, Cond.code yX2_setUnits cX2_setUnits 4 (some .int), Cond.classLink RX2 29 "java/lang/IllegalArgumentException", Cond.initialized "java/lang/IllegalArgumentException", Cond.fieldLink RX2 10 "LoopScheduler" "loop" "LLoopScheduler$Loop;", Cond.fieldLink RX2 36 "LoopScheduler$Loop" "units" "[I", Cond.fieldLink RX2 21 "LoopScheduler" "table" "LLoopScheduler$Timetable;", Cond.methodLink RX2 25 yX2_requireKind, Cond.static yX2_requireKind, Cond.code yX2_requireKind cX2_requireKind 1 none, Cond.classLink RX2 81 "java/lang/IndexOutOfBoundsException", Cond.initialized "java/lang/IndexOutOfBoundsException", Cond.methodLink RX2 43 yX2_isKind, Cond.static yX2_isKind, Cond.code yX2_isKind cX2_isKind 1 (some .boolean), Cond.methodLink RX2 40 yX1_drop, Cond.instanceMethod yX1_drop, Cond.selects RX1 yX1_drop yX1_drop, Cond.initialized RX1]
def wsL_setUnits_r2 : List Cond := [Cond.code yX1_drop cX1_drop 1 none, Cond.fieldLink RX1 27 "LoopScheduler$Timetable" "interval" "I"]
def wsL_setUnits : List Cond := .codeWith yL_setUnits cL_setUnits 5 (some .int) [(0, 10, 13, 13), (0, 10, 17, 15)] :: ((wsL_setUnits_r1 ++ wsL_setUnits_r2) ++ wsX20 ++ wsX00 ++ wsX10 ++ (vx_atS RX2 33 "java/lang/IllegalArgumentException" ["java/lang/RuntimeException", "java/lang/Exception"]).filter goodWord ++ (vx_atS RX2 85 "java/lang/IndexOutOfBoundsException" ["java/lang/RuntimeException", "java/lang/Exception"]).filter goodWord)
def wsL_addOperation_r1 : List Cond := [Cond.classLink RL 15 "java/lang/IllegalArgumentException", Cond.classLink RL 20 "java/lang/IllegalStateException", Cond.methodLink RL 17 yX2_addOperation, Cond.instanceMethod yX2_addOperation, Cond.selects RX2 yX2_addOperation yX2_addOperation, Cond.initialized RX2, Cond.code yX2_addOperation cX2_addOperation 3 (some .int), Cond.classLink RX2 29 "java/lang/IllegalArgumentException", Cond.initialized "java/lang/IllegalArgumentException", Cond.classLink RX2 55 "java/lang/IllegalStateException", Cond.initialized "java/lang/IllegalStateException", Cond.fieldLink RX2 10 "LoopScheduler" "loop" "LLoopScheduler$Loop;", Cond.fieldLink RX2 51 "LoopScheduler$Loop" "operations" "I", Cond.fieldLink RX2 21 "LoopScheduler" "table" "LLoopScheduler$Timetable;", Cond.methodLink RX2 43 yX2_isKind, Cond.static yX2_isKind, Cond.code yX2_isKind cX2_isKind 1 (some .boolean), Cond.methodLink RX2 40 yX1_drop, Cond.instanceMethod yX1_drop, Cond.selects RX1 yX1_drop yX1_drop, Cond.initialized RX1, Cond.code yX1_drop cX1_drop 1 none, Cond.fieldLink RX1 27 "LoopScheduler$Timetable" "interval" "I", Cond.methodLink RX2 60 yX0_appendOperation]
def wsL_addOperation_r2 : List Cond := [Cond.instanceMethod yX0_appendOperation, Cond.selects RX0 yX0_appendOperation yX0_appendOperation, Cond.initialized RX0, Cond.code yX0_appendOperation cX0_appendOperation 3 (some .int), Cond.fieldLink RX0 15 "LoopScheduler$Loop" "kinds" "[I", Cond.fieldLink RX0 36 "LoopScheduler$Loop" "operations" "I", Cond.fieldLink RX0 18 "LoopScheduler$Loop" "busy" "[I"]
def wsL_addOperation : List Cond := .codeWith yL_addOperation cL_addOperation 5 (some .int) [(0, 10, 13, 15), (0, 10, 17, 20)] :: ((wsL_addOperation_r1 ++ wsL_addOperation_r2) ++ wsX20 ++ wsX00 ++ wsX10 ++ (vx_atS RX2 33 "java/lang/IllegalArgumentException" ["java/lang/RuntimeException", "java/lang/Exception"]).filter goodWord ++ (vx_atS RX2 59 "java/lang/IllegalStateException" ["java/lang/RuntimeException", "java/lang/Exception"]).filter goodWord)
def wsL_addDependence_r1 : List Cond := [Cond.classLink RL 13 "java/lang/IndexOutOfBoundsException", Cond.classLink RL 15 "java/lang/IllegalArgumentException", Cond.classLink RL 20 "java/lang/IllegalStateException", Cond.methodLink RL 22 yX2_addDependence, Cond.instanceMethod yX2_addDependence, Cond.selects RX2 yX2_addDependence yX2_addDependence, Cond.initialized RX2, Cond.code yX2_addDependence cX2_addDependence 5 (some .int), Cond.classLink RX2 29 "java/lang/IllegalArgumentException", Cond.initialized "java/lang/IllegalArgumentException", Cond.classLink RX2 55 "java/lang/IllegalStateException", Cond.initialized "java/lang/IllegalStateException", Cond.fieldLink RX2 10 "LoopScheduler" "loop" "LLoopScheduler$Loop;", Cond.fieldLink RX2 72 "LoopScheduler$Loop" "dependences" "I", Cond.fieldLink RX2 21 "LoopScheduler" "table" "LLoopScheduler$Timetable;", Cond.methodLink RX2 64 yX2_requireOperation, Cond.instanceMethod yX2_requireOperation, Cond.selects RX2 yX2_requireOperation yX2_requireOperation, Cond.code yX2_requireOperation cX2_requireOperation 2 none, Cond.classLink RX2 81 "java/lang/IndexOutOfBoundsException", Cond.initialized "java/lang/IndexOutOfBoundsException", Cond.fieldLink RX2 51 "LoopScheduler$Loop" "operations" "I", Cond.methodLink RX2 67 yX2_requireDelay, Cond.static yX2_requireDelay]
def wsL_addDependence_r2 : List Cond := [Cond.code yX2_requireDelay cX2_requireDelay 1 none, Cond.methodLink RX2 40 yX1_drop, Cond.instanceMethod yX1_drop, Cond.selects RX1 yX1_drop yX1_drop, Cond.initialized RX1, Cond.code yX1_drop cX1_drop 1 none, Cond.fieldLink RX1 27 "LoopScheduler$Timetable" "interval" "I", Cond.methodLink RX2 77 yX0_appendDependence, Cond.instanceMethod yX0_appendDependence, Cond.selects RX0 yX0_appendDependence yX0_appendDependence, Cond.initialized RX0, Cond.code yX0_appendDependence cX0_appendDependence 5 (some .int), Cond.fieldLink RX0 21 "LoopScheduler$Loop" "sources" "[I", Cond.fieldLink RX0 40 "LoopScheduler$Loop" "dependences" "I", Cond.fieldLink RX0 24 "LoopScheduler$Loop" "targets" "[I", Cond.fieldLink RX0 27 "LoopScheduler$Loop" "delays" "[I", Cond.fieldLink RX0 30 "LoopScheduler$Loop" "distances" "[I"]
def wsL_addDependence : List Cond := .codeWith yL_addDependence cL_addDependence 7 (some .int) [(0, 14, 17, 13), (0, 14, 21, 15), (0, 14, 25, 20)] :: ((wsL_addDependence_r1 ++ wsL_addDependence_r2) ++ wsX20 ++ wsX00 ++ wsX10 ++ (vx_atS RX2 33 "java/lang/IllegalArgumentException" ["java/lang/RuntimeException", "java/lang/Exception"]).filter goodWord ++ (vx_atS RX2 59 "java/lang/IllegalStateException" ["java/lang/RuntimeException", "java/lang/Exception"]).filter goodWord ++ (vx_atS RX2 85 "java/lang/IndexOutOfBoundsException" ["java/lang/RuntimeException", "java/lang/Exception"]).filter goodWord)
def wsL_setDelay : List Cond := .codeWith yL_setDelay cL_setDelay 5 (some .int) [(0, 10, 13, 13), (0, 10, 17, 15)] :: ([.classLink RL 13 "java/lang/IndexOutOfBoundsException", .classLink RL 15 "java/lang/IllegalArgumentException", .methodLink RL 26 yX2_setDelay, .instanceMethod yX2_setDelay, .selects RX2 yX2_setDelay yX2_setDelay, .initialized RX2, .code yX2_setDelay cX2_setDelay 4 (some .int), .classLink RX2 81 "java/lang/IndexOutOfBoundsException", .initialized "java/lang/IndexOutOfBoundsException", .fieldLink RX2 10 "LoopScheduler" "loop" "LLoopScheduler$Loop;", .fieldLink RX2 72 "LoopScheduler$Loop" "dependences" "I", .fieldLink RX2 86 "LoopScheduler$Loop" "delays" "[I", .fieldLink RX2 21 "LoopScheduler" "table" "LLoopScheduler$Timetable;", .methodLink RX2 67 yX2_requireDelay, .static yX2_requireDelay, .code yX2_requireDelay cX2_requireDelay 1 none, .classLink RX2 29 "java/lang/IllegalArgumentException", .initialized "java/lang/IllegalArgumentException", .methodLink RX2 40 yX1_drop, .instanceMethod yX1_drop, .selects RX1 yX1_drop yX1_drop, .initialized RX1, .code yX1_drop cX1_drop 1 none, .fieldLink RX1 27 "LoopScheduler$Timetable" "interval" "I"] ++ wsX20 ++ wsX00 ++ wsX10 ++ (vx_atS RX2 85 "java/lang/IndexOutOfBoundsException" ["java/lang/RuntimeException", "java/lang/Exception"]).filter goodWord ++ (vx_atS RX2 33 "java/lang/IllegalArgumentException" ["java/lang/RuntimeException", "java/lang/Exception"]).filter goodWord)
def wsL_height_r1 : List Cond := [Cond.classLink RL 13 "java/lang/IndexOutOfBoundsException", Cond.classLink RL 15 "java/lang/IllegalArgumentException", Cond.methodLink RL 29 yX2_height, Cond.instanceMethod yX2_height, Cond.selects RX2 yX2_height yX2_height, Cond.initialized RX2, Cond.code yX2_height cX2_height 4 (some .int), Cond.classLink RX2 29 "java/lang/IllegalArgumentException", Cond.initialized "java/lang/IllegalArgumentException", Cond.fieldLink RX2 10 "LoopScheduler" "loop" "LLoopScheduler$Loop;", Cond.fieldLink RX2 101 "LoopScheduler$Loop" "heights" "[I", Cond.methodLink RX2 64 yX2_requireOperation, Cond.instanceMethod yX2_requireOperation, Cond.selects RX2 yX2_requireOperation yX2_requireOperation, Cond.code yX2_requireOperation cX2_requireOperation 2 none, Cond.classLink RX2 81 "java/lang/IndexOutOfBoundsException", Cond.initialized "java/lang/IndexOutOfBoundsException", Cond.fieldLink RX2 51 "LoopScheduler$Loop" "operations" "I", Cond.methodLink RX2 93 yX0_leastIntervalOfRecurrences, Cond.instanceMethod yX0_leastIntervalOfRecurrences, Cond.selects RX0 yX0_leastIntervalOfRecurrences yX0_leastIntervalOfRecurrences, Cond.initialized RX0, Cond.code yX0_leastIntervalOfRecurrences cX0_leastIntervalOfRecurrences 3 (some .int), Cond.methodLink RX0 53 yX0_findHeights]
def wsL_height_r2 : List Cond := [Cond.instanceMethod yX0_findHeights, Cond.selects RX0 yX0_findHeights yX0_findHeights, Cond.code yX0_findHeights cX0_findHeights 3 (some .boolean), Cond.fieldLink RX0 33 "LoopScheduler$Loop" "heights" "[I", Cond.fieldLink RX0 36 "LoopScheduler$Loop" "operations" "I", Cond.methodLink RX0 57 yJ7_fill_53178, Cond.static yJ7_fill_53178, Cond.initialized RJ7, Cond.code yJ7_fill_53178 cJ7_fill_53178 4 none, Cond.methodLink RX0 63 yX0_raiseHeights, Cond.instanceMethod yX0_raiseHeights, Cond.selects RX0 yX0_raiseHeights yX0_raiseHeights, Cond.code yX0_raiseHeights cX0_raiseHeights 5 (some .boolean), Cond.fieldLink RX0 40 "LoopScheduler$Loop" "dependences" "I", Cond.fieldLink RX0 24 "LoopScheduler$Loop" "targets" "[I", Cond.fieldLink RX0 27 "LoopScheduler$Loop" "delays" "[I", Cond.fieldLink RX0 30 "LoopScheduler$Loop" "distances" "[I", Cond.fieldLink RX0 21 "LoopScheduler$Loop" "sources" "[I", Cond.methodLink RX2 98 yX0_findHeights]
def wsL_height : List Cond := .codeWith yL_height cL_height 5 (some .int) [(0, 10, 13, 13), (0, 10, 17, 15)] :: ((wsL_height_r1 ++ wsL_height_r2) ++ wsX20 ++ wsX00 ++ (vx_atS RX2 33 "java/lang/IllegalArgumentException" ["java/lang/RuntimeException", "java/lang/Exception"]).filter goodWord ++ (vx_atS RX2 85 "java/lang/IndexOutOfBoundsException" ["java/lang/RuntimeException", "java/lang/Exception"]).filter goodWord)
def wsL_schedule_r1 : List Cond := [Cond.classLink RL 15 "java/lang/IllegalArgumentException", Cond.methodLink RL 32 yX2_schedule, Cond.instanceMethod yX2_schedule, Cond.selects RX2 yX2_schedule yX2_schedule, Cond.initialized RX2, Cond.code yX2_schedule cX2_schedule 5 (some .int), Cond.classLink RX2 29 "java/lang/IllegalArgumentException", Cond.initialized "java/lang/IllegalArgumentException", Cond.fieldLink RX2 21 "LoopScheduler" "table" "LLoopScheduler$Timetable;", Cond.fieldLink RX2 106 "LoopScheduler" "attemptCount" "I", Cond.fieldLink RX2 10 "LoopScheduler" "loop" "LLoopScheduler$Loop;", Cond.methodLink RX2 109 Lib.Math.max.name, Cond.static Lib.Math.max.name, Cond.initialized "java/lang/Math", Cond.code Lib.Math.max.name Lib.Math.max.code 2 (some .int), Cond.methodLink RX2 40 yX1_drop, Cond.instanceMethod yX1_drop, Cond.selects RX1 yX1_drop yX1_drop, Cond.initialized RX1, Cond.code yX1_drop cX1_drop 1 none, Cond.fieldLink RX1 27 "LoopScheduler$Timetable" "interval" "I", Cond.methodLink RX2 93 yX0_leastIntervalOfRecurrences, Cond.instanceMethod yX0_leastIntervalOfRecurrences, Cond.selects RX0 yX0_leastIntervalOfRecurrences yX0_leastIntervalOfRecurrences]
def wsL_schedule_r2 : List Cond := [Cond.initialized RX0, Cond.code yX0_leastIntervalOfRecurrences cX0_leastIntervalOfRecurrences 3 (some .int), Cond.methodLink RX0 53 yX0_findHeights, Cond.instanceMethod yX0_findHeights, Cond.selects RX0 yX0_findHeights yX0_findHeights, Cond.code yX0_findHeights cX0_findHeights 3 (some .boolean), Cond.fieldLink RX0 33 "LoopScheduler$Loop" "heights" "[I", Cond.fieldLink RX0 36 "LoopScheduler$Loop" "operations" "I", Cond.methodLink RX0 57 yJ7_fill_53178, Cond.static yJ7_fill_53178, Cond.initialized RJ7, Cond.code yJ7_fill_53178 cJ7_fill_53178 4 none, Cond.methodLink RX0 63 yX0_raiseHeights, Cond.instanceMethod yX0_raiseHeights, Cond.selects RX0 yX0_raiseHeights yX0_raiseHeights, Cond.code yX0_raiseHeights cX0_raiseHeights 5 (some .boolean), Cond.fieldLink RX0 40 "LoopScheduler$Loop" "dependences" "I", Cond.fieldLink RX0 24 "LoopScheduler$Loop" "targets" "[I", Cond.fieldLink RX0 27 "LoopScheduler$Loop" "delays" "[I", Cond.fieldLink RX0 30 "LoopScheduler$Loop" "distances" "[I", Cond.fieldLink RX0 21 "LoopScheduler$Loop" "sources" "[I", Cond.methodLink RX2 89 yX0_leastIntervalOfResources, Cond.instanceMethod yX0_leastIntervalOfResources, Cond.selects RX0 yX0_leastIntervalOfResources yX0_leastIntervalOfResources]
def wsL_schedule_r3 : List Cond := [Cond.code yX0_leastIntervalOfResources cX0_leastIntervalOfResources 3 (some .int), Cond.fieldLink RX0 9 "LoopScheduler$Loop" "units" "[I", Cond.methodLink RX0 47 Lib.Math.max.name, Cond.methodLink RX0 43 yX0_busyCycles, Cond.instanceMethod yX0_busyCycles, Cond.selects RX0 yX0_busyCycles yX0_busyCycles, Cond.code yX0_busyCycles cX0_busyCycles 4 (some .int), Cond.fieldLink RX0 15 "LoopScheduler$Loop" "kinds" "[I", Cond.fieldLink RX0 18 "LoopScheduler$Loop" "busy" "[I", Cond.methodLink RX2 114 yX1_attempt, Cond.instanceMethod yX1_attempt, Cond.selects RX1 yX1_attempt yX1_attempt, Cond.code yX1_attempt cX1_attempt 4 (some .boolean), Cond.fieldLink RX1 23 "LoopScheduler$Timetable" "loop" "LLoopScheduler$Loop;", Cond.fieldLink RX1 9 "LoopScheduler$Timetable" "times" "[I", Cond.fieldLink RX1 17 "LoopScheduler$Timetable" "takenUnits" "[[I", Cond.fieldLink RX1 43 "LoopScheduler$Loop" "operations" "I", Cond.methodLink RX1 31 yX0_findHeights, Cond.methodLink RX1 37 yJ7_fill_53178, Cond.methodLink RX1 46 yX1_highestUnplaced, Cond.instanceMethod yX1_highestUnplaced, Cond.selects RX1 yX1_highestUnplaced yX1_highestUnplaced, Cond.code yX1_highestUnplaced cX1_highestUnplaced 3 (some .int), Cond.fieldLink RX1 56 "LoopScheduler$Loop" "heights" "[I"]
def wsL_schedule_r4 : List Cond := [Cond.methodLink RX1 50 yX1_placeAtFirst, Cond.instanceMethod yX1_placeAtFirst, Cond.selects RX1 yX1_placeAtFirst yX1_placeAtFirst, Cond.code yX1_placeAtFirst cX1_placeAtFirst 5 (some .boolean), Cond.methodLink RX1 66 Lib.Math.min.name, Cond.static Lib.Math.min.name, Cond.code Lib.Math.min.name Lib.Math.min.code 2 (some .int), Cond.methodLink RX1 59 yX1_earliestAllowed, Cond.instanceMethod yX1_earliestAllowed, Cond.selects RX1 yX1_earliestAllowed yX1_earliestAllowed, Cond.code yX1_earliestAllowed cX1_earliestAllowed 5 (some .int), Cond.fieldLink RX1 80 "LoopScheduler$Loop" "dependences" "I", Cond.fieldLink RX1 83 "LoopScheduler$Loop" "sources" "[I", Cond.fieldLink RX1 86 "LoopScheduler$Loop" "targets" "[I", Cond.fieldLink RX1 89 "LoopScheduler$Loop" "delays" "[I", Cond.fieldLink RX1 92 "LoopScheduler$Loop" "distances" "[I", Cond.methodLink RX1 95 Lib.Math.max.name, Cond.methodLink RX1 63 yX1_latestAllowed, Cond.instanceMethod yX1_latestAllowed, Cond.selects RX1 yX1_latestAllowed yX1_latestAllowed, Cond.code yX1_latestAllowed cX1_latestAllowed 5 (some .int), Cond.constant RX1 100 (2147483647), Cond.methodLink RX1 72 yX1_hasUnits, Cond.instanceMethod yX1_hasUnits]
def wsL_schedule_r5 : List Cond := [Cond.selects RX1 yX1_hasUnits yX1_hasUnits, Cond.code yX1_hasUnits cX1_hasUnits 6 (some .boolean), Cond.fieldLink RX1 101 "LoopScheduler$Loop" "kinds" "[I", Cond.fieldLink RX1 104 "LoopScheduler$Loop" "busy" "[I", Cond.fieldLink RX1 107 "LoopScheduler$Loop" "units" "[I", Cond.methodLink RX1 76 yX1_place, Cond.instanceMethod yX1_place, Cond.selects RX1 yX1_place yX1_place, Cond.code yX1_place cX1_place 3 none, Cond.methodLink RX1 110 yX1_changeTaken, Cond.instanceMethod yX1_changeTaken, Cond.selects RX1 yX1_changeTaken yX1_changeTaken, Cond.code yX1_changeTaken cX1_changeTaken 6 none, Cond.methodLink RX1 53 yX1_drop]
def wsL_schedule : List Cond := .codeWith yL_schedule cL_schedule 4 (some .int) [(0, 9, 12, 15)] :: ((wsL_schedule_r1 ++ (wsL_schedule_r2 ++ (wsL_schedule_r3 ++ (wsL_schedule_r4 ++ wsL_schedule_r5)))) ++ wsX20 ++ wsX10 ++ wsX00 ++ (vx_atS RX2 33 "java/lang/IllegalArgumentException" ["java/lang/RuntimeException", "java/lang/Exception"]).filter goodWord)
def wsL_interval : List Cond := .codeWith yL_interval cL_interval 3 (some .int) [(0, 8, 11, 20)] :: ([.classLink RL 20 "java/lang/IllegalStateException", .methodLink RL 36 yX2_interval, .instanceMethod yX2_interval, .selects RX2 yX2_interval yX2_interval, .initialized RX2, .code yX2_interval cX2_interval 1 (some .int), .fieldLink RX2 21 "LoopScheduler" "table" "LLoopScheduler$Timetable;", .fieldLink RX2 117 "LoopScheduler$Timetable" "interval" "I", .methodLink RX2 120 yX2_requireSchedule, .instanceMethod yX2_requireSchedule, .selects RX2 yX2_requireSchedule yX2_requireSchedule, .code yX2_requireSchedule cX2_requireSchedule 1 none, .classLink RX2 55 "java/lang/IllegalStateException", .initialized "java/lang/IllegalStateException"] ++ wsX20 ++ wsX10 ++ (vx_atS RX2 59 "java/lang/IllegalStateException" ["java/lang/RuntimeException", "java/lang/Exception"]).filter goodWord)
def wsL_time : List Cond := .codeWith yL_time cL_time 4 (some .int) [(0, 9, 12, 13), (0, 9, 15, 20)] :: ([.classLink RL 13 "java/lang/IndexOutOfBoundsException", .classLink RL 20 "java/lang/IllegalStateException", .methodLink RL 40 yX2_time, .instanceMethod yX2_time, .selects RX2 yX2_time yX2_time, .initialized RX2, .code yX2_time cX2_time 2 (some .int), .fieldLink RX2 21 "LoopScheduler" "table" "LLoopScheduler$Timetable;", .fieldLink RX2 123 "LoopScheduler$Timetable" "times" "[I", .methodLink RX2 64 yX2_requireOperation, .instanceMethod yX2_requireOperation, .selects RX2 yX2_requireOperation yX2_requireOperation, .code yX2_requireOperation cX2_requireOperation 2 none, .classLink RX2 81 "java/lang/IndexOutOfBoundsException", .initialized "java/lang/IndexOutOfBoundsException", .fieldLink RX2 10 "LoopScheduler" "loop" "LLoopScheduler$Loop;", .fieldLink RX2 51 "LoopScheduler$Loop" "operations" "I", .methodLink RX2 120 yX2_requireSchedule, .instanceMethod yX2_requireSchedule, .selects RX2 yX2_requireSchedule yX2_requireSchedule, .code yX2_requireSchedule cX2_requireSchedule 1 none, .classLink RX2 55 "java/lang/IllegalStateException", .initialized "java/lang/IllegalStateException", .fieldLink RX2 117 "LoopScheduler$Timetable" "interval" "I"] ++ wsX20 ++ wsX10 ++ wsX00 ++ (vx_atS RX2 85 "java/lang/IndexOutOfBoundsException" ["java/lang/RuntimeException", "java/lang/Exception"]).filter goodWord ++ (vx_atS RX2 59 "java/lang/IllegalStateException" ["java/lang/RuntimeException", "java/lang/Exception"]).filter goodWord)
def wsL_move_r1 : List Cond := [Cond.classLink RL 13 "java/lang/IndexOutOfBoundsException", Cond.classLink RL 15 "java/lang/IllegalArgumentException", Cond.classLink RL 20 "java/lang/IllegalStateException", Cond.methodLink RL 43 yX2_move, Cond.instanceMethod yX2_move, Cond.selects RX2 yX2_move yX2_move, Cond.initialized RX2, Cond.code yX2_move cX2_move 3 (some .boolean), Cond.classLink RX2 29 "java/lang/IllegalArgumentException", Cond.initialized "java/lang/IllegalArgumentException", Cond.fieldLink RX2 21 "LoopScheduler" "table" "LLoopScheduler$Timetable;", Cond.methodLink RX2 64 yX2_requireOperation, Cond.instanceMethod yX2_requireOperation, Cond.selects RX2 yX2_requireOperation yX2_requireOperation, Cond.code yX2_requireOperation cX2_requireOperation 2 none, Cond.classLink RX2 81 "java/lang/IndexOutOfBoundsException", Cond.initialized "java/lang/IndexOutOfBoundsException", Cond.fieldLink RX2 10 "LoopScheduler" "loop" "LLoopScheduler$Loop;", Cond.fieldLink RX2 51 "LoopScheduler$Loop" "operations" "I", Cond.methodLink RX2 120 yX2_requireSchedule, Cond.instanceMethod yX2_requireSchedule, Cond.selects RX2 yX2_requireSchedule yX2_requireSchedule, Cond.code yX2_requireSchedule cX2_requireSchedule 1 none, Cond.classLink RX2 55 "java/lang/IllegalStateException"]
def wsL_move_r2 : List Cond := [Cond.initialized "java/lang/IllegalStateException", Cond.fieldLink RX2 117 "LoopScheduler$Timetable" "interval" "I", Cond.methodLink RX2 128 yX1_replace, Cond.instanceMethod yX1_replace, Cond.selects RX1 yX1_replace yX1_replace, Cond.initialized RX1, Cond.code yX1_replace cX1_replace 5 (some .boolean), Cond.fieldLink RX1 9 "LoopScheduler$Timetable" "times" "[I", Cond.methodLink RX1 114 yX1_lift, Cond.instanceMethod yX1_lift, Cond.selects RX1 yX1_lift yX1_lift, Cond.code yX1_lift cX1_lift 2 none, Cond.methodLink RX1 110 yX1_changeTaken, Cond.instanceMethod yX1_changeTaken, Cond.selects RX1 yX1_changeTaken yX1_changeTaken, Cond.code yX1_changeTaken cX1_changeTaken 6 none, Cond.fieldLink RX1 23 "LoopScheduler$Timetable" "loop" "LLoopScheduler$Loop;", Cond.fieldLink RX1 101 "LoopScheduler$Loop" "kinds" "[I", Cond.fieldLink RX1 104 "LoopScheduler$Loop" "busy" "[I", Cond.fieldLink RX1 17 "LoopScheduler$Timetable" "takenUnits" "[[I", Cond.fieldLink RX1 27 "LoopScheduler$Timetable" "interval" "I", Cond.methodLink RX1 59 yX1_earliestAllowed, Cond.instanceMethod yX1_earliestAllowed, Cond.selects RX1 yX1_earliestAllowed yX1_earliestAllowed]
def wsL_move_r3 : List Cond := [Cond.code yX1_earliestAllowed cX1_earliestAllowed 5 (some .int), Cond.fieldLink RX1 80 "LoopScheduler$Loop" "dependences" "I", Cond.fieldLink RX1 83 "LoopScheduler$Loop" "sources" "[I", Cond.fieldLink RX1 86 "LoopScheduler$Loop" "targets" "[I", Cond.fieldLink RX1 89 "LoopScheduler$Loop" "delays" "[I", Cond.fieldLink RX1 92 "LoopScheduler$Loop" "distances" "[I", Cond.methodLink RX1 95 Lib.Math.max.name, Cond.static Lib.Math.max.name, Cond.initialized "java/lang/Math", Cond.code Lib.Math.max.name Lib.Math.max.code 2 (some .int), Cond.methodLink RX1 63 yX1_latestAllowed, Cond.instanceMethod yX1_latestAllowed, Cond.selects RX1 yX1_latestAllowed yX1_latestAllowed, Cond.code yX1_latestAllowed cX1_latestAllowed 5 (some .int), Cond.constant RX1 100 (2147483647), Cond.methodLink RX1 66 Lib.Math.min.name, Cond.static Lib.Math.min.name, Cond.code Lib.Math.min.name Lib.Math.min.code 2 (some .int), Cond.methodLink RX1 72 yX1_hasUnits, Cond.instanceMethod yX1_hasUnits, Cond.selects RX1 yX1_hasUnits yX1_hasUnits, Cond.code yX1_hasUnits cX1_hasUnits 6 (some .boolean), Cond.fieldLink RX1 107 "LoopScheduler$Loop" "units" "[I", Cond.methodLink RX1 76 yX1_place]
def wsL_move_r4 : List Cond := [Cond.instanceMethod yX1_place, Cond.selects RX1 yX1_place yX1_place, Cond.code yX1_place cX1_place 3 none]
def wsL_move : List Cond := .codeWith yL_move cL_move 5 (some .int) [(0, 17, 20, 13), (0, 17, 24, 15), (0, 17, 28, 20)] :: ((wsL_move_r1 ++ (wsL_move_r2 ++ (wsL_move_r3 ++ wsL_move_r4))) ++ wsX20 ++ wsX00 ++ wsX10 ++ (vx_atS RX2 33 "java/lang/IllegalArgumentException" ["java/lang/RuntimeException", "java/lang/Exception"]).filter goodWord ++ (vx_atS RX2 85 "java/lang/IndexOutOfBoundsException" ["java/lang/RuntimeException", "java/lang/Exception"]).filter goodWord ++ (vx_atS RX2 59 "java/lang/IllegalStateException" ["java/lang/RuntimeException", "java/lang/Exception"]).filter goodWord)
def wsL_freedom_r1 : List Cond := [Cond.classLink RL 13 "java/lang/IndexOutOfBoundsException", Cond.classLink RL 20 "java/lang/IllegalStateException", Cond.methodLink RL 47 yX2_freedom, Cond.instanceMethod yX2_freedom, Cond.selects RX2 yX2_freedom yX2_freedom, Cond.initialized RX2, Cond.code yX2_freedom cX2_freedom 2 (some .int), Cond.fieldLink RX2 21 "LoopScheduler" "table" "LLoopScheduler$Timetable;", Cond.methodLink RX2 64 yX2_requireOperation, Cond.instanceMethod yX2_requireOperation, Cond.selects RX2 yX2_requireOperation yX2_requireOperation, Cond.code yX2_requireOperation cX2_requireOperation 2 none, Cond.classLink RX2 81 "java/lang/IndexOutOfBoundsException", Cond.initialized "java/lang/IndexOutOfBoundsException", Cond.fieldLink RX2 10 "LoopScheduler" "loop" "LLoopScheduler$Loop;", Cond.fieldLink RX2 51 "LoopScheduler$Loop" "operations" "I", Cond.methodLink RX2 120 yX2_requireSchedule, Cond.instanceMethod yX2_requireSchedule, Cond.selects RX2 yX2_requireSchedule yX2_requireSchedule, Cond.code yX2_requireSchedule cX2_requireSchedule 1 none, Cond.classLink RX2 55 "java/lang/IllegalStateException", Cond.initialized "java/lang/IllegalStateException", Cond.fieldLink RX2 117 "LoopScheduler$Timetable" "interval" "I", Cond.methodLink RX2 132 yX1_countPlaces]
def wsL_freedom_r2 : List Cond := [Cond.instanceMethod yX1_countPlaces, Cond.selects RX1 yX1_countPlaces yX1_countPlaces, Cond.initialized RX1, Cond.code yX1_countPlaces cX1_countPlaces 6 (some .int), Cond.fieldLink RX1 9 "LoopScheduler$Timetable" "times" "[I", Cond.methodLink RX1 66 Lib.Math.min.name, Cond.static Lib.Math.min.name, Cond.initialized "java/lang/Math", Cond.code Lib.Math.min.name Lib.Math.min.code 2 (some .int), Cond.methodLink RX1 114 yX1_lift, Cond.instanceMethod yX1_lift, Cond.selects RX1 yX1_lift yX1_lift, Cond.code yX1_lift cX1_lift 2 none, Cond.methodLink RX1 110 yX1_changeTaken, Cond.instanceMethod yX1_changeTaken, Cond.selects RX1 yX1_changeTaken yX1_changeTaken, Cond.code yX1_changeTaken cX1_changeTaken 6 none, Cond.fieldLink RX1 23 "LoopScheduler$Timetable" "loop" "LLoopScheduler$Loop;", Cond.fieldLink RX1 101 "LoopScheduler$Loop" "kinds" "[I", Cond.fieldLink RX1 104 "LoopScheduler$Loop" "busy" "[I", Cond.fieldLink RX1 17 "LoopScheduler$Timetable" "takenUnits" "[[I", Cond.fieldLink RX1 27 "LoopScheduler$Timetable" "interval" "I", Cond.methodLink RX1 63 yX1_latestAllowed, Cond.instanceMethod yX1_latestAllowed]
def wsL_freedom_r3 : List Cond := [Cond.selects RX1 yX1_latestAllowed yX1_latestAllowed, Cond.code yX1_latestAllowed cX1_latestAllowed 5 (some .int), Cond.constant RX1 100 (2147483647), Cond.fieldLink RX1 80 "LoopScheduler$Loop" "dependences" "I", Cond.fieldLink RX1 86 "LoopScheduler$Loop" "targets" "[I", Cond.fieldLink RX1 83 "LoopScheduler$Loop" "sources" "[I", Cond.fieldLink RX1 89 "LoopScheduler$Loop" "delays" "[I", Cond.fieldLink RX1 92 "LoopScheduler$Loop" "distances" "[I", Cond.methodLink RX1 59 yX1_earliestAllowed, Cond.instanceMethod yX1_earliestAllowed, Cond.selects RX1 yX1_earliestAllowed yX1_earliestAllowed, Cond.code yX1_earliestAllowed cX1_earliestAllowed 5 (some .int), Cond.methodLink RX1 95 Lib.Math.max.name, Cond.static Lib.Math.max.name, Cond.code Lib.Math.max.name Lib.Math.max.code 2 (some .int), Cond.methodLink RX1 72 yX1_hasUnits, Cond.instanceMethod yX1_hasUnits, Cond.selects RX1 yX1_hasUnits yX1_hasUnits, Cond.code yX1_hasUnits cX1_hasUnits 6 (some .boolean), Cond.fieldLink RX1 107 "LoopScheduler$Loop" "units" "[I", Cond.methodLink RX1 76 yX1_place, Cond.instanceMethod yX1_place, Cond.selects RX1 yX1_place yX1_place, Cond.code yX1_place cX1_place 3 none]
def wsL_freedom : List Cond := .codeWith yL_freedom cL_freedom 4 (some .int) [(0, 9, 12, 13), (0, 9, 15, 20)] :: ((wsL_freedom_r1 ++ (wsL_freedom_r2 ++ wsL_freedom_r3)) ++ wsX20 ++ wsX00 ++ wsX10 ++ (vx_atS RX2 85 "java/lang/IndexOutOfBoundsException" ["java/lang/RuntimeException", "java/lang/Exception"]).filter goodWord ++ (vx_atS RX2 59 "java/lang/IllegalStateException" ["java/lang/RuntimeException", "java/lang/Exception"]).filter goodWord)
def wsL_stages_r1 : List Cond := [Cond.classLink RL 20 "java/lang/IllegalStateException", Cond.methodLink RL 50 yX2_stages, Cond.instanceMethod yX2_stages, Cond.selects RX2 yX2_stages yX2_stages, Cond.initialized RX2, Cond.code yX2_stages cX2_stages 1 (some .int), Cond.fieldLink RX2 21 "LoopScheduler" "table" "LLoopScheduler$Timetable;", Cond.methodLink RX2 120 yX2_requireSchedule, Cond.instanceMethod yX2_requireSchedule, Cond.selects RX2 yX2_requireSchedule yX2_requireSchedule, Cond.code yX2_requireSchedule cX2_requireSchedule 1 none, Cond.classLink RX2 55 "java/lang/IllegalStateException", Cond.initialized "java/lang/IllegalStateException", Cond.fieldLink RX2 117 "LoopScheduler$Timetable" "interval" "I", Cond.methodLink RX2 136 yX1_countStages, Cond.instanceMethod yX1_countStages, Cond.selects RX1 yX1_countStages yX1_countStages, Cond.initialized RX1, Cond.code yX1_countStages cX1_countStages 1 (some .int), Cond.fieldLink RX1 23 "LoopScheduler$Timetable" "loop" "LLoopScheduler$Loop;", Cond.fieldLink RX1 43 "LoopScheduler$Loop" "operations" "I", Cond.fieldLink RX1 27 "LoopScheduler$Timetable" "interval" "I", Cond.methodLink RX1 118 yX1_greatestTime, Cond.instanceMethod yX1_greatestTime]
def wsL_stages_r2 : List Cond := [Cond.selects RX1 yX1_greatestTime yX1_greatestTime, Cond.code yX1_greatestTime cX1_greatestTime 3 (some .int), Cond.fieldLink RX1 9 "LoopScheduler$Timetable" "times" "[I", Cond.methodLink RX1 95 Lib.Math.max.name, Cond.static Lib.Math.max.name, Cond.initialized "java/lang/Math", Cond.code Lib.Math.max.name Lib.Math.max.code 2 (some .int)]
def wsL_stages : List Cond := .codeWith yL_stages cL_stages 3 (some .int) [(0, 8, 11, 20)] :: ((wsL_stages_r1 ++ wsL_stages_r2) ++ wsX20 ++ wsX10 ++ wsX00 ++ (vx_atS RX2 59 "java/lang/IllegalStateException" ["java/lang/RuntimeException", "java/lang/Exception"]).filter goodWord)
def wsL_taken_r1 : List Cond := [Cond.classLink RL 13 "java/lang/IndexOutOfBoundsException", Cond.classLink RL 20 "java/lang/IllegalStateException", Cond.classLink RL 15 "java/lang/IllegalArgumentException", Cond.methodLink RL 53 yX2_taken, Cond.instanceMethod yX2_taken, Cond.selects RX2 yX2_taken yX2_taken, Cond.initialized RX2, Cond.code yX2_taken cX2_taken 3 (some .int), Cond.fieldLink RX2 21 "LoopScheduler" "table" "LLoopScheduler$Timetable;", Cond.fieldLink RX2 142 "LoopScheduler$Timetable" "takenUnits" "[[I", Cond.methodLink RX2 25 yX2_requireKind, Cond.static yX2_requireKind, Cond.code yX2_requireKind cX2_requireKind 1 none, Cond.classLink RX2 81 "java/lang/IndexOutOfBoundsException", Cond.initialized "java/lang/IndexOutOfBoundsException", Cond.methodLink RX2 43 yX2_isKind, Cond.static yX2_isKind, Cond.code yX2_isKind cX2_isKind 1 (some .boolean), Cond.methodLink RX2 120 yX2_requireSchedule, Cond.instanceMethod yX2_requireSchedule, Cond.selects RX2 yX2_requireSchedule yX2_requireSchedule, Cond.code yX2_requireSchedule cX2_requireSchedule 1 none, Cond.classLink RX2 55 "java/lang/IllegalStateException", Cond.initialized "java/lang/IllegalStateException"]
def wsL_taken_r2 : List Cond := [Cond.fieldLink RX2 117 "LoopScheduler$Timetable" "interval" "I", Cond.methodLink RX2 139 yX2_requireRow, Cond.instanceMethod yX2_requireRow, Cond.selects RX2 yX2_requireRow yX2_requireRow, Cond.code yX2_requireRow cX2_requireRow 2 none, Cond.classLink RX2 29 "java/lang/IllegalArgumentException", Cond.initialized "java/lang/IllegalArgumentException"]
def wsL_taken : List Cond := .codeWith yL_taken cL_taken 5 (some .int) [(0, 10, 13, 13), (0, 10, 17, 20), (0, 10, 21, 15)] :: ((wsL_taken_r1 ++ wsL_taken_r2) ++ wsX20 ++ wsX10 ++ (vx_atS RX2 85 "java/lang/IndexOutOfBoundsException" ["java/lang/RuntimeException", "java/lang/Exception"]).filter goodWord ++ (vx_atS RX2 59 "java/lang/IllegalStateException" ["java/lang/RuntimeException", "java/lang/Exception"]).filter goodWord ++ (vx_atS RX2 33 "java/lang/IllegalArgumentException" ["java/lang/RuntimeException", "java/lang/Exception"]).filter goodWord)
def wsL_lifetime_r1 : List Cond := [Cond.classLink RL 13 "java/lang/IndexOutOfBoundsException", Cond.classLink RL 20 "java/lang/IllegalStateException", Cond.methodLink RL 56 yX2_lifetime, Cond.instanceMethod yX2_lifetime, Cond.selects RX2 yX2_lifetime yX2_lifetime, Cond.initialized RX2, Cond.code yX2_lifetime cX2_lifetime 2 (some .int), Cond.fieldLink RX2 21 "LoopScheduler" "table" "LLoopScheduler$Timetable;", Cond.fieldLink RX2 149 "LoopScheduler$Timetable" "lifetimes" "[I", Cond.methodLink RX2 64 yX2_requireOperation, Cond.instanceMethod yX2_requireOperation, Cond.selects RX2 yX2_requireOperation yX2_requireOperation, Cond.code yX2_requireOperation cX2_requireOperation 2 none, Cond.classLink RX2 81 "java/lang/IndexOutOfBoundsException", Cond.initialized "java/lang/IndexOutOfBoundsException", Cond.fieldLink RX2 10 "LoopScheduler" "loop" "LLoopScheduler$Loop;", Cond.fieldLink RX2 51 "LoopScheduler$Loop" "operations" "I", Cond.methodLink RX2 120 yX2_requireSchedule, Cond.instanceMethod yX2_requireSchedule, Cond.selects RX2 yX2_requireSchedule yX2_requireSchedule, Cond.code yX2_requireSchedule cX2_requireSchedule 1 none, Cond.classLink RX2 55 "java/lang/IllegalStateException", Cond.initialized "java/lang/IllegalStateException", Cond.fieldLink RX2 117 "LoopScheduler$Timetable" "interval" "I"]
def wsL_lifetime_r2 : List Cond := [Cond.methodLink RX2 146 yX1_findLifetimes, Cond.instanceMethod yX1_findLifetimes, Cond.selects RX1 yX1_findLifetimes yX1_findLifetimes, Cond.initialized RX1, Cond.code yX1_findLifetimes cX1_findLifetimes 4 none, Cond.fieldLink RX1 20 "LoopScheduler$Timetable" "lifetimes" "[I", Cond.fieldLink RX1 23 "LoopScheduler$Timetable" "loop" "LLoopScheduler$Loop;", Cond.fieldLink RX1 80 "LoopScheduler$Loop" "dependences" "I", Cond.fieldLink RX1 83 "LoopScheduler$Loop" "sources" "[I", Cond.fieldLink RX1 9 "LoopScheduler$Timetable" "times" "[I", Cond.fieldLink RX1 86 "LoopScheduler$Loop" "targets" "[I", Cond.fieldLink RX1 27 "LoopScheduler$Timetable" "interval" "I", Cond.fieldLink RX1 92 "LoopScheduler$Loop" "distances" "[I", Cond.methodLink RX1 95 Lib.Math.max.name, Cond.static Lib.Math.max.name, Cond.initialized "java/lang/Math", Cond.code Lib.Math.max.name Lib.Math.max.code 2 (some .int), Cond.methodLink RX1 37 yJ7_fill_53178, Cond.static yJ7_fill_53178, Cond.initialized RJ7, Cond.code yJ7_fill_53178 cJ7_fill_53178 4 none]
def wsL_lifetime : List Cond := .codeWith yL_lifetime cL_lifetime 4 (some .int) [(0, 9, 12, 13), (0, 9, 15, 20)] :: ((wsL_lifetime_r1 ++ wsL_lifetime_r2) ++ wsX20 ++ wsX10 ++ wsX00 ++ (vx_atS RX2 85 "java/lang/IndexOutOfBoundsException" ["java/lang/RuntimeException", "java/lang/Exception"]).filter goodWord ++ (vx_atS RX2 59 "java/lang/IllegalStateException" ["java/lang/RuntimeException", "java/lang/Exception"]).filter goodWord)
def wsL_live_r1 : List Cond := [Cond.classLink RL 20 "java/lang/IllegalStateException", Cond.classLink RL 15 "java/lang/IllegalArgumentException", Cond.methodLink RL 59 yX2_live, Cond.instanceMethod yX2_live, Cond.selects RX2 yX2_live yX2_live, Cond.initialized RX2, Cond.code yX2_live cX2_live 2 (some .int), Cond.fieldLink RX2 21 "LoopScheduler" "table" "LLoopScheduler$Timetable;", Cond.methodLink RX2 120 yX2_requireSchedule, Cond.instanceMethod yX2_requireSchedule, Cond.selects RX2 yX2_requireSchedule yX2_requireSchedule, Cond.code yX2_requireSchedule cX2_requireSchedule 1 none, Cond.classLink RX2 55 "java/lang/IllegalStateException", Cond.initialized "java/lang/IllegalStateException", Cond.fieldLink RX2 117 "LoopScheduler$Timetable" "interval" "I", Cond.methodLink RX2 139 yX2_requireRow, Cond.instanceMethod yX2_requireRow, Cond.selects RX2 yX2_requireRow yX2_requireRow, Cond.code yX2_requireRow cX2_requireRow 2 none, Cond.classLink RX2 29 "java/lang/IllegalArgumentException", Cond.initialized "java/lang/IllegalArgumentException", Cond.methodLink RX2 146 yX1_findLifetimes, Cond.instanceMethod yX1_findLifetimes, Cond.selects RX1 yX1_findLifetimes yX1_findLifetimes]
def wsL_live_r2 : List Cond := [Cond.initialized RX1, Cond.code yX1_findLifetimes cX1_findLifetimes 4 none, Cond.fieldLink RX1 20 "LoopScheduler$Timetable" "lifetimes" "[I", Cond.fieldLink RX1 23 "LoopScheduler$Timetable" "loop" "LLoopScheduler$Loop;", Cond.fieldLink RX1 80 "LoopScheduler$Loop" "dependences" "I", Cond.fieldLink RX1 83 "LoopScheduler$Loop" "sources" "[I", Cond.fieldLink RX1 9 "LoopScheduler$Timetable" "times" "[I", Cond.fieldLink RX1 86 "LoopScheduler$Loop" "targets" "[I", Cond.fieldLink RX1 27 "LoopScheduler$Timetable" "interval" "I", Cond.fieldLink RX1 92 "LoopScheduler$Loop" "distances" "[I", Cond.methodLink RX1 95 Lib.Math.max.name, Cond.static Lib.Math.max.name, Cond.initialized "java/lang/Math", Cond.code Lib.Math.max.name Lib.Math.max.code 2 (some .int), Cond.methodLink RX1 37 yJ7_fill_53178, Cond.static yJ7_fill_53178, Cond.initialized RJ7, Cond.code yJ7_fill_53178 cJ7_fill_53178 4 none, Cond.methodLink RX2 152 yX1_countLive, Cond.instanceMethod yX1_countLive, Cond.selects RX1 yX1_countLive yX1_countLive, Cond.code yX1_countLive cX1_countLive 5 (some .int), Cond.fieldLink RX1 43 "LoopScheduler$Loop" "operations" "I", Cond.methodLink RX1 121 yJ9_floorMod_7cf53]
def wsL_live_r3 : List Cond := [Cond.static yJ9_floorMod_7cf53, Cond.initialized RJ9, Cond.code yJ9_floorMod_7cf53 cJ9_floorMod_7cf53 3 (some .int)]
def wsL_live : List Cond := .codeWith yL_live cL_live 4 (some .int) [(0, 9, 12, 20), (0, 9, 15, 15)] :: ((wsL_live_r1 ++ (wsL_live_r2 ++ wsL_live_r3)) ++ wsX20 ++ wsX10 ++ wsX00 ++ (vx_atS RX2 59 "java/lang/IllegalStateException" ["java/lang/RuntimeException", "java/lang/Exception"]).filter goodWord ++ (vx_atS RX2 33 "java/lang/IllegalArgumentException" ["java/lang/RuntimeException", "java/lang/Exception"]).filter goodWord)
def wsL_registers_r1 : List Cond := [Cond.classLink RL 20 "java/lang/IllegalStateException", Cond.methodLink RL 62 yX2_registers, Cond.instanceMethod yX2_registers, Cond.selects RX2 yX2_registers yX2_registers, Cond.initialized RX2, Cond.code yX2_registers cX2_registers 3 (some .int), Cond.fieldLink RX2 21 "LoopScheduler" "table" "LLoopScheduler$Timetable;", Cond.fieldLink RX2 117 "LoopScheduler$Timetable" "interval" "I", Cond.methodLink RX2 109 Lib.Math.max.name, Cond.static Lib.Math.max.name, Cond.initialized "java/lang/Math", Cond.code Lib.Math.max.name Lib.Math.max.code 2 (some .int), Cond.methodLink RX2 120 yX2_requireSchedule, Cond.instanceMethod yX2_requireSchedule, Cond.selects RX2 yX2_requireSchedule yX2_requireSchedule, Cond.code yX2_requireSchedule cX2_requireSchedule 1 none, Cond.classLink RX2 55 "java/lang/IllegalStateException", Cond.initialized "java/lang/IllegalStateException", Cond.methodLink RX2 146 yX1_findLifetimes, Cond.instanceMethod yX1_findLifetimes, Cond.selects RX1 yX1_findLifetimes yX1_findLifetimes, Cond.initialized RX1, Cond.code yX1_findLifetimes cX1_findLifetimes 4 none, Cond.fieldLink RX1 20 "LoopScheduler$Timetable" "lifetimes" "[I"]
def wsL_registers_r2 : List Cond := [Cond.fieldLink RX1 23 "LoopScheduler$Timetable" "loop" "LLoopScheduler$Loop;", Cond.fieldLink RX1 80 "LoopScheduler$Loop" "dependences" "I", Cond.fieldLink RX1 83 "LoopScheduler$Loop" "sources" "[I", Cond.fieldLink RX1 9 "LoopScheduler$Timetable" "times" "[I", Cond.fieldLink RX1 86 "LoopScheduler$Loop" "targets" "[I", Cond.fieldLink RX1 27 "LoopScheduler$Timetable" "interval" "I", Cond.fieldLink RX1 92 "LoopScheduler$Loop" "distances" "[I", Cond.methodLink RX1 95 Lib.Math.max.name, Cond.methodLink RX1 37 yJ7_fill_53178, Cond.static yJ7_fill_53178, Cond.initialized RJ7, Cond.code yJ7_fill_53178 cJ7_fill_53178 4 none, Cond.methodLink RX2 152 yX1_countLive, Cond.instanceMethod yX1_countLive, Cond.selects RX1 yX1_countLive yX1_countLive, Cond.code yX1_countLive cX1_countLive 5 (some .int), Cond.fieldLink RX1 43 "LoopScheduler$Loop" "operations" "I", Cond.methodLink RX1 121 yJ9_floorMod_7cf53, Cond.static yJ9_floorMod_7cf53, Cond.initialized RJ9, Cond.code yJ9_floorMod_7cf53 cJ9_floorMod_7cf53 3 (some .int)]
def wsL_registers : List Cond := .codeWith yL_registers cL_registers 3 (some .int) [(0, 8, 11, 20)] :: ((wsL_registers_r1 ++ wsL_registers_r2) ++ wsX20 ++ wsX10 ++ wsX00 ++ (vx_atS RX2 59 "java/lang/IllegalStateException" ["java/lang/RuntimeException", "java/lang/Exception"]).filter goodWord)
def wsL_copies_r1 : List Cond := [Cond.classLink RL 13 "java/lang/IndexOutOfBoundsException", Cond.classLink RL 20 "java/lang/IllegalStateException", Cond.methodLink RL 65 yX2_copies, Cond.instanceMethod yX2_copies, Cond.selects RX2 yX2_copies yX2_copies, Cond.initialized RX2, Cond.code yX2_copies cX2_copies 2 (some .int), Cond.fieldLink RX2 21 "LoopScheduler" "table" "LLoopScheduler$Timetable;", Cond.methodLink RX2 64 yX2_requireOperation, Cond.instanceMethod yX2_requireOperation, Cond.selects RX2 yX2_requireOperation yX2_requireOperation, Cond.code yX2_requireOperation cX2_requireOperation 2 none, Cond.classLink RX2 81 "java/lang/IndexOutOfBoundsException", Cond.initialized "java/lang/IndexOutOfBoundsException", Cond.fieldLink RX2 10 "LoopScheduler" "loop" "LLoopScheduler$Loop;", Cond.fieldLink RX2 51 "LoopScheduler$Loop" "operations" "I", Cond.methodLink RX2 120 yX2_requireSchedule, Cond.instanceMethod yX2_requireSchedule, Cond.selects RX2 yX2_requireSchedule yX2_requireSchedule, Cond.code yX2_requireSchedule cX2_requireSchedule 1 none, Cond.classLink RX2 55 "java/lang/IllegalStateException", Cond.initialized "java/lang/IllegalStateException", Cond.fieldLink RX2 117 "LoopScheduler$Timetable" "interval" "I", Cond.methodLink RX2 146 yX1_findLifetimes]
def wsL_copies_r2 : List Cond := [Cond.instanceMethod yX1_findLifetimes, Cond.selects RX1 yX1_findLifetimes yX1_findLifetimes, Cond.initialized RX1, Cond.code yX1_findLifetimes cX1_findLifetimes 4 none, Cond.fieldLink RX1 20 "LoopScheduler$Timetable" "lifetimes" "[I", Cond.fieldLink RX1 23 "LoopScheduler$Timetable" "loop" "LLoopScheduler$Loop;", Cond.fieldLink RX1 80 "LoopScheduler$Loop" "dependences" "I", Cond.fieldLink RX1 83 "LoopScheduler$Loop" "sources" "[I", Cond.fieldLink RX1 9 "LoopScheduler$Timetable" "times" "[I", Cond.fieldLink RX1 86 "LoopScheduler$Loop" "targets" "[I", Cond.fieldLink RX1 27 "LoopScheduler$Timetable" "interval" "I", Cond.fieldLink RX1 92 "LoopScheduler$Loop" "distances" "[I", Cond.methodLink RX1 95 Lib.Math.max.name, Cond.static Lib.Math.max.name, Cond.initialized "java/lang/Math", Cond.code Lib.Math.max.name Lib.Math.max.code 2 (some .int), Cond.methodLink RX1 37 yJ7_fill_53178, Cond.static yJ7_fill_53178, Cond.initialized RJ7, Cond.code yJ7_fill_53178 cJ7_fill_53178 4 none, Cond.methodLink RX2 155 yX1_countCopies, Cond.instanceMethod yX1_countCopies, Cond.selects RX1 yX1_countCopies yX1_countCopies, Cond.code yX1_countCopies cX1_countCopies 2 (some .int)]
def wsL_copies : List Cond := .codeWith yL_copies cL_copies 4 (some .int) [(0, 9, 12, 13), (0, 9, 15, 20)] :: ((wsL_copies_r1 ++ wsL_copies_r2) ++ wsX20 ++ wsX00 ++ wsX10 ++ (vx_atS RX2 85 "java/lang/IndexOutOfBoundsException" ["java/lang/RuntimeException", "java/lang/Exception"]).filter goodWord ++ (vx_atS RX2 59 "java/lang/IllegalStateException" ["java/lang/RuntimeException", "java/lang/Exception"]).filter goodWord)
def wsL_unrolling_r1 : List Cond := [Cond.classLink RL 20 "java/lang/IllegalStateException", Cond.methodLink RL 68 yX2_unrolling, Cond.instanceMethod yX2_unrolling, Cond.selects RX2 yX2_unrolling yX2_unrolling, Cond.initialized RX2, Cond.code yX2_unrolling cX2_unrolling 4 (some .int), Cond.fieldLink RX2 21 "LoopScheduler" "table" "LLoopScheduler$Timetable;", Cond.fieldLink RX2 10 "LoopScheduler" "loop" "LLoopScheduler$Loop;", Cond.fieldLink RX2 51 "LoopScheduler$Loop" "operations" "I", Cond.constantLong RX2 162 (1000000), Cond.constant RX2 164 (1000000), Cond.methodLink RX2 120 yX2_requireSchedule, Cond.instanceMethod yX2_requireSchedule, Cond.selects RX2 yX2_requireSchedule yX2_requireSchedule, Cond.code yX2_requireSchedule cX2_requireSchedule 1 none, Cond.classLink RX2 55 "java/lang/IllegalStateException", Cond.initialized "java/lang/IllegalStateException", Cond.fieldLink RX2 117 "LoopScheduler$Timetable" "interval" "I", Cond.methodLink RX2 146 yX1_findLifetimes, Cond.instanceMethod yX1_findLifetimes, Cond.selects RX1 yX1_findLifetimes yX1_findLifetimes, Cond.initialized RX1, Cond.code yX1_findLifetimes cX1_findLifetimes 4 none, Cond.fieldLink RX1 20 "LoopScheduler$Timetable" "lifetimes" "[I"]
def wsL_unrolling_r2 : List Cond := [Cond.fieldLink RX1 23 "LoopScheduler$Timetable" "loop" "LLoopScheduler$Loop;", Cond.fieldLink RX1 80 "LoopScheduler$Loop" "dependences" "I", Cond.fieldLink RX1 83 "LoopScheduler$Loop" "sources" "[I", Cond.fieldLink RX1 9 "LoopScheduler$Timetable" "times" "[I", Cond.fieldLink RX1 86 "LoopScheduler$Loop" "targets" "[I", Cond.fieldLink RX1 27 "LoopScheduler$Timetable" "interval" "I", Cond.fieldLink RX1 92 "LoopScheduler$Loop" "distances" "[I", Cond.methodLink RX1 95 Lib.Math.max.name, Cond.static Lib.Math.max.name, Cond.initialized "java/lang/Math", Cond.code Lib.Math.max.name Lib.Math.max.code 2 (some .int), Cond.methodLink RX1 37 yJ7_fill_53178, Cond.static yJ7_fill_53178, Cond.initialized RJ7, Cond.code yJ7_fill_53178 cJ7_fill_53178 4 none, Cond.methodLink RX2 155 yX1_countCopies, Cond.instanceMethod yX1_countCopies, Cond.selects RX1 yX1_countCopies yX1_countCopies, Cond.code yX1_countCopies cX1_countCopies 2 (some .int), Cond.methodLink RX2 158 yX2_leastCommonMultiple, Cond.static yX2_leastCommonMultiple, Cond.code yX2_leastCommonMultiple cX2_leastCommonMultiple 4 (some .long)]
def wsL_unrolling : List Cond := .codeWith yL_unrolling cL_unrolling 3 (some .int) [(0, 8, 11, 20)] :: ((wsL_unrolling_r1 ++ wsL_unrolling_r2) ++ wsX20 ++ wsX00 ++ wsX10 ++ (vx_atS RX2 59 "java/lang/IllegalStateException" ["java/lang/RuntimeException", "java/lang/Exception"]).filter goodWord)
def wsL_cycles_r1 : List Cond := [Cond.classLink RL 20 "java/lang/IllegalStateException", Cond.classLink RL 15 "java/lang/IllegalArgumentException", Cond.methodLink RL 71 yX2_cycles, Cond.instanceMethod yX2_cycles, Cond.selects RX2 yX2_cycles yX2_cycles, Cond.initialized RX2, Cond.code yX2_cycles cX2_cycles 2 (some .int), Cond.fieldLink RX2 10 "LoopScheduler" "loop" "LLoopScheduler$Loop;", Cond.fieldLink RX2 51 "LoopScheduler$Loop" "operations" "I", Cond.fieldLink RX2 21 "LoopScheduler" "table" "LLoopScheduler$Timetable;", Cond.fieldLink RX2 117 "LoopScheduler$Timetable" "interval" "I", Cond.methodLink RX2 120 yX2_requireSchedule, Cond.instanceMethod yX2_requireSchedule, Cond.selects RX2 yX2_requireSchedule yX2_requireSchedule, Cond.code yX2_requireSchedule cX2_requireSchedule 1 none, Cond.classLink RX2 55 "java/lang/IllegalStateException", Cond.initialized "java/lang/IllegalStateException", Cond.methodLink RX2 165 yX2_requireIterations, Cond.static yX2_requireIterations, Cond.code yX2_requireIterations cX2_requireIterations 1 none, Cond.classLink RX2 29 "java/lang/IllegalArgumentException", Cond.initialized "java/lang/IllegalArgumentException", Cond.methodLink RX2 168 yX1_greatestTime, Cond.instanceMethod yX1_greatestTime]
def wsL_cycles_r2 : List Cond := [Cond.selects RX1 yX1_greatestTime yX1_greatestTime, Cond.initialized RX1, Cond.code yX1_greatestTime cX1_greatestTime 3 (some .int), Cond.fieldLink RX1 23 "LoopScheduler$Timetable" "loop" "LLoopScheduler$Loop;", Cond.fieldLink RX1 43 "LoopScheduler$Loop" "operations" "I", Cond.fieldLink RX1 9 "LoopScheduler$Timetable" "times" "[I", Cond.methodLink RX1 95 Lib.Math.max.name, Cond.static Lib.Math.max.name, Cond.initialized "java/lang/Math", Cond.code Lib.Math.max.name Lib.Math.max.code 2 (some .int)]
def wsL_cycles : List Cond := .codeWith yL_cycles cL_cycles 4 (some .int) [(0, 9, 12, 20), (0, 9, 15, 15)] :: ((wsL_cycles_r1 ++ wsL_cycles_r2) ++ wsX20 ++ wsX00 ++ wsX10 ++ (vx_atS RX2 59 "java/lang/IllegalStateException" ["java/lang/RuntimeException", "java/lang/Exception"]).filter goodWord ++ (vx_atS RX2 33 "java/lang/IllegalArgumentException" ["java/lang/RuntimeException", "java/lang/Exception"]).filter goodWord)
def wsL_issued_r1 : List Cond := [Cond.classLink RL 20 "java/lang/IllegalStateException", Cond.classLink RL 15 "java/lang/IllegalArgumentException", Cond.methodLink RL 74 yX2_issued, Cond.instanceMethod yX2_issued, Cond.selects RX2 yX2_issued yX2_issued, Cond.initialized RX2, Cond.code yX2_issued cX2_issued 5 (some .int), Cond.fieldLink RX2 10 "LoopScheduler" "loop" "LLoopScheduler$Loop;", Cond.fieldLink RX2 51 "LoopScheduler$Loop" "operations" "I", Cond.methodLink RX2 120 yX2_requireSchedule, Cond.instanceMethod yX2_requireSchedule, Cond.selects RX2 yX2_requireSchedule yX2_requireSchedule, Cond.code yX2_requireSchedule cX2_requireSchedule 1 none, Cond.classLink RX2 55 "java/lang/IllegalStateException", Cond.initialized "java/lang/IllegalStateException", Cond.fieldLink RX2 21 "LoopScheduler" "table" "LLoopScheduler$Timetable;", Cond.fieldLink RX2 117 "LoopScheduler$Timetable" "interval" "I", Cond.methodLink RX2 165 yX2_requireIterations, Cond.static yX2_requireIterations, Cond.code yX2_requireIterations cX2_requireIterations 1 none, Cond.classLink RX2 29 "java/lang/IllegalArgumentException", Cond.initialized "java/lang/IllegalArgumentException", Cond.methodLink RX2 171 yX2_requireCycle, Cond.static yX2_requireCycle]
def wsL_issued_r2 : List Cond := [Cond.code yX2_requireCycle cX2_requireCycle 1 none, Cond.methodLink RX2 174 yX2_isIssued, Cond.instanceMethod yX2_isIssued, Cond.selects RX2 yX2_isIssued yX2_isIssued, Cond.code yX2_isIssued cX2_isIssued 5 (some .boolean), Cond.fieldLink RX2 123 "LoopScheduler$Timetable" "times" "[I"]
def wsL_issued : List Cond := .codeWith yL_issued cL_issued 5 (some .int) [(0, 10, 13, 20), (0, 10, 17, 15)] :: ((wsL_issued_r1 ++ wsL_issued_r2) ++ wsX20 ++ wsX00 ++ wsX10 ++ (vx_atS RX2 59 "java/lang/IllegalStateException" ["java/lang/RuntimeException", "java/lang/Exception"]).filter goodWord ++ (vx_atS RX2 33 "java/lang/IllegalArgumentException" ["java/lang/RuntimeException", "java/lang/Exception"]).filter goodWord)
def wsL_issue_r1 : List Cond := [Cond.classLink RL 20 "java/lang/IllegalStateException", Cond.classLink RL 15 "java/lang/IllegalArgumentException", Cond.classLink RL 13 "java/lang/IndexOutOfBoundsException", Cond.methodLink RL 77 yX2_issue, Cond.instanceMethod yX2_issue, Cond.selects RX2 yX2_issue yX2_issue, Cond.initialized RX2, Cond.code yX2_issue cX2_issue 5 (some .int), Cond.classLink RX2 81 "java/lang/IndexOutOfBoundsException", Cond.initialized "java/lang/IndexOutOfBoundsException", Cond.fieldLink RX2 10 "LoopScheduler" "loop" "LLoopScheduler$Loop;", Cond.fieldLink RX2 51 "LoopScheduler$Loop" "operations" "I", Cond.methodLink RX2 120 yX2_requireSchedule, Cond.instanceMethod yX2_requireSchedule, Cond.selects RX2 yX2_requireSchedule yX2_requireSchedule, Cond.code yX2_requireSchedule cX2_requireSchedule 1 none, Cond.classLink RX2 55 "java/lang/IllegalStateException", Cond.initialized "java/lang/IllegalStateException", Cond.fieldLink RX2 21 "LoopScheduler" "table" "LLoopScheduler$Timetable;", Cond.fieldLink RX2 117 "LoopScheduler$Timetable" "interval" "I", Cond.methodLink RX2 165 yX2_requireIterations, Cond.static yX2_requireIterations, Cond.code yX2_requireIterations cX2_requireIterations 1 none, Cond.classLink RX2 29 "java/lang/IllegalArgumentException"]
def wsL_issue_r2 : List Cond := [Cond.initialized "java/lang/IllegalArgumentException", Cond.methodLink RX2 171 yX2_requireCycle, Cond.static yX2_requireCycle, Cond.code yX2_requireCycle cX2_requireCycle 1 none, Cond.methodLink RX2 174 yX2_isIssued, Cond.instanceMethod yX2_isIssued, Cond.selects RX2 yX2_isIssued yX2_isIssued, Cond.code yX2_isIssued cX2_isIssued 5 (some .boolean), Cond.fieldLink RX2 123 "LoopScheduler$Timetable" "times" "[I", Cond.methodLink RX2 178 yX2_countIssuedBefore, Cond.instanceMethod yX2_countIssuedBefore, Cond.selects RX2 yX2_countIssuedBefore yX2_countIssuedBefore, Cond.code yX2_countIssuedBefore cX2_countIssuedBefore 7 (some .int), Cond.methodLink RX2 182 yX2_issueNumber, Cond.instanceMethod yX2_issueNumber, Cond.selects RX2 yX2_issueNumber yX2_issueNumber, Cond.code yX2_issueNumber cX2_issueNumber 4 (some .int)]
def wsL_issue : List Cond := .codeWith yL_issue cL_issue 6 (some .int) [(0, 12, 15, 20), (0, 12, 19, 15), (0, 12, 23, 13)] :: ((wsL_issue_r1 ++ wsL_issue_r2) ++ wsX20 ++ wsX00 ++ wsX10 ++ (vx_atS RX2 85 "java/lang/IndexOutOfBoundsException" ["java/lang/RuntimeException", "java/lang/Exception"]).filter goodWord ++ (vx_atS RX2 59 "java/lang/IllegalStateException" ["java/lang/RuntimeException", "java/lang/Exception"]).filter goodWord ++ (vx_atS RX2 33 "java/lang/IllegalArgumentException" ["java/lang/RuntimeException", "java/lang/Exception"]).filter goodWord)
def wsL_prologue_r1 : List Cond := [Cond.classLink RL 20 "java/lang/IllegalStateException", Cond.methodLink RL 81 yX2_prologue, Cond.instanceMethod yX2_prologue, Cond.selects RX2 yX2_prologue yX2_prologue, Cond.initialized RX2, Cond.code yX2_prologue cX2_prologue 4 (some .int), Cond.fieldLink RX2 21 "LoopScheduler" "table" "LLoopScheduler$Timetable;", Cond.fieldLink RX2 10 "LoopScheduler" "loop" "LLoopScheduler$Loop;", Cond.fieldLink RX2 51 "LoopScheduler$Loop" "operations" "I", Cond.methodLink RX2 120 yX2_requireSchedule, Cond.instanceMethod yX2_requireSchedule, Cond.selects RX2 yX2_requireSchedule yX2_requireSchedule, Cond.code yX2_requireSchedule cX2_requireSchedule 1 none, Cond.classLink RX2 55 "java/lang/IllegalStateException", Cond.initialized "java/lang/IllegalStateException", Cond.fieldLink RX2 117 "LoopScheduler$Timetable" "interval" "I", Cond.methodLink RX2 136 yX1_countStages, Cond.instanceMethod yX1_countStages, Cond.selects RX1 yX1_countStages yX1_countStages, Cond.initialized RX1, Cond.code yX1_countStages cX1_countStages 1 (some .int), Cond.fieldLink RX1 23 "LoopScheduler$Timetable" "loop" "LLoopScheduler$Loop;", Cond.fieldLink RX1 43 "LoopScheduler$Loop" "operations" "I", Cond.fieldLink RX1 27 "LoopScheduler$Timetable" "interval" "I"]
def wsL_prologue_r2 : List Cond := [Cond.methodLink RX1 118 yX1_greatestTime, Cond.instanceMethod yX1_greatestTime, Cond.selects RX1 yX1_greatestTime yX1_greatestTime, Cond.code yX1_greatestTime cX1_greatestTime 3 (some .int), Cond.fieldLink RX1 9 "LoopScheduler$Timetable" "times" "[I", Cond.methodLink RX1 95 Lib.Math.max.name, Cond.static Lib.Math.max.name, Cond.initialized "java/lang/Math", Cond.code Lib.Math.max.name Lib.Math.max.code 2 (some .int), Cond.methodLink RX2 187 yX1_stageOf, Cond.instanceMethod yX1_stageOf, Cond.selects RX1 yX1_stageOf yX1_stageOf, Cond.code yX1_stageOf cX1_stageOf 2 (some .int)]
def wsL_prologue : List Cond := .codeWith yL_prologue cL_prologue 3 (some .int) [(0, 8, 11, 20)] :: ((wsL_prologue_r1 ++ wsL_prologue_r2) ++ wsX20 ++ wsX00 ++ wsX10 ++ (vx_atS RX2 59 "java/lang/IllegalStateException" ["java/lang/RuntimeException", "java/lang/Exception"]).filter goodWord)
def wsL_epilogue : List Cond := .codeWith yL_epilogue cL_epilogue 3 (some .int) [(0, 8, 11, 20)] :: ([.classLink RL 20 "java/lang/IllegalStateException", .methodLink RL 84 yX2_epilogue, .instanceMethod yX2_epilogue, .selects RX2 yX2_epilogue yX2_epilogue, .initialized RX2, .code yX2_epilogue cX2_epilogue 3 (some .int), .fieldLink RX2 10 "LoopScheduler" "loop" "LLoopScheduler$Loop;", .fieldLink RX2 51 "LoopScheduler$Loop" "operations" "I", .fieldLink RX2 21 "LoopScheduler" "table" "LLoopScheduler$Timetable;", .methodLink RX2 120 yX2_requireSchedule, .instanceMethod yX2_requireSchedule, .selects RX2 yX2_requireSchedule yX2_requireSchedule, .code yX2_requireSchedule cX2_requireSchedule 1 none, .classLink RX2 55 "java/lang/IllegalStateException", .initialized "java/lang/IllegalStateException", .fieldLink RX2 117 "LoopScheduler$Timetable" "interval" "I", .methodLink RX2 187 yX1_stageOf, .instanceMethod yX1_stageOf, .selects RX1 yX1_stageOf yX1_stageOf, .initialized RX1, .code yX1_stageOf cX1_stageOf 2 (some .int), .fieldLink RX1 9 "LoopScheduler$Timetable" "times" "[I", .fieldLink RX1 27 "LoopScheduler$Timetable" "interval" "I"] ++ wsX20 ++ wsX00 ++ wsX10 ++ (vx_atS RX2 59 "java/lang/IllegalStateException" ["java/lang/RuntimeException", "java/lang/Exception"]).filter goodWord)
def wsL_law0_r1 : List Cond := [Cond.classLink RL 8 RX2, Cond.instantiable RX2 3, Cond.initialized RX2, Cond.classLink RL 88 RX3, Cond.instantiable RX3 16, Cond.initialized RX3, Cond.arrayClass .long, Cond.methodLink RL 87 yX2_init, Cond.instanceMethod yX2_init, Cond.code yX2_init cX2_init 1 none, Cond.methodLink RX2 1 objectInit, Cond.instanceMethod objectInit, Cond.code objectInit ⟨#[0xb1]⟩ 1 none, Cond.classLink RX2 7 RX0, Cond.instantiable RX0 10, Cond.initialized RX0, Cond.fieldLink RX2 10 "LoopScheduler" "loop" "LLoopScheduler$Loop;", Cond.classLink RX2 16 RX1, Cond.instantiable RX1 5, Cond.initialized RX1, Cond.fieldLink RX2 21 "LoopScheduler" "table" "LLoopScheduler$Timetable;", Cond.methodLink RX2 9 yX0_init, Cond.instanceMethod yX0_init, Cond.code yX0_init cX0_init 2 none]
def wsL_law0_r2 : List Cond := [Cond.methodLink RX0 3 objectInit, Cond.arrayClass .int, Cond.fieldLink RX0 9 "LoopScheduler$Loop" "units" "[I", Cond.fieldLink RX0 15 "LoopScheduler$Loop" "kinds" "[I", Cond.fieldLink RX0 18 "LoopScheduler$Loop" "busy" "[I", Cond.fieldLink RX0 21 "LoopScheduler$Loop" "sources" "[I", Cond.fieldLink RX0 24 "LoopScheduler$Loop" "targets" "[I", Cond.fieldLink RX0 27 "LoopScheduler$Loop" "delays" "[I", Cond.fieldLink RX0 30 "LoopScheduler$Loop" "distances" "[I", Cond.fieldLink RX0 33 "LoopScheduler$Loop" "heights" "[I", Cond.methodLink RX2 18 yX1_init, Cond.instanceMethod yX1_init, Cond.code yX1_init cX1_init 2 none, Cond.methodLink RX1 3 objectInit, Cond.fieldLink RX1 9 "LoopScheduler$Timetable" "times" "[I", Cond.classLink RX1 15 "[[I", Cond.fieldLink RX1 17 "LoopScheduler$Timetable" "takenUnits" "[[I", Cond.fieldLink RX1 20 "LoopScheduler$Timetable" "lifetimes" "[I", Cond.fieldLink RX1 23 "LoopScheduler$Timetable" "loop" "LLoopScheduler$Loop;", Cond.methodLink RL 90 yX3_init, Cond.instanceMethod yX3_init, Cond.code yX3_init cX3_init 1 none, Cond.methodLink RX3 1 objectInit, Cond.fieldLink RX3 7 "LoopSchedulerModel" "units" "[I"]
def wsL_law0_r3 : List Cond := [Cond.fieldLink RX3 13 "LoopSchedulerModel" "kinds" "[I", Cond.fieldLink RX3 16 "LoopSchedulerModel" "busy" "[I", Cond.fieldLink RX3 19 "LoopSchedulerModel" "froms" "[I", Cond.fieldLink RX3 22 "LoopSchedulerModel" "tos" "[I", Cond.fieldLink RX3 25 "LoopSchedulerModel" "delays" "[I", Cond.fieldLink RX3 28 "LoopSchedulerModel" "distances" "[I", Cond.fieldLink RX3 31 "LoopSchedulerModel" "times" "[I", Cond.fieldLink RX3 34 "LoopSchedulerModel" "heights" "[I", Cond.arrayClass .boolean, Cond.fieldLink RX3 37 "LoopSchedulerModel" "isPlaced" "[Z", Cond.fieldLink RX3 41 "LoopSchedulerModel" "counts" "[I", Cond.methodLink RL 91 yL_setUnits, Cond.static yL_setUnits, Cond.initialized RL, Cond.codeWith yL_setUnits cL_setUnits 5 (some .int) [(0, 10, 13, 13), (0, 10, 17, 15)], Cond.classLink RL 13 "java/lang/IndexOutOfBoundsException", Cond.classLink RL 15 "java/lang/IllegalArgumentException", Cond.methodLink RL 7 yX2_setUnits, Cond.instanceMethod yX2_setUnits, Cond.selects RX2 yX2_setUnits yX2_setUnits, Cond.code yX2_setUnits cX2_setUnits 4 (some .int), Cond.classLink RX2 29 "java/lang/IllegalArgumentException", Cond.initialized "java/lang/IllegalArgumentException", Cond.fieldLink RX2 36 "LoopScheduler$Loop" "units" "[I"]
def wsL_law0_r4 : List Cond := [Cond.methodLink RX2 25 yX2_requireKind, Cond.static yX2_requireKind, Cond.code yX2_requireKind cX2_requireKind 1 none, Cond.classLink RX2 81 "java/lang/IndexOutOfBoundsException", Cond.initialized "java/lang/IndexOutOfBoundsException", Cond.methodLink RX2 43 yX2_isKind, Cond.static yX2_isKind, Cond.code yX2_isKind cX2_isKind 1 (some .boolean), Cond.methodLink RX2 40 yX1_drop, Cond.instanceMethod yX1_drop, Cond.selects RX1 yX1_drop yX1_drop, Cond.code yX1_drop cX1_drop 1 none, Cond.fieldLink RX1 27 "LoopScheduler$Timetable" "interval" "I", Cond.methodLink RL 96 yX3_setUnits, Cond.instanceMethod yX3_setUnits, Cond.selects RX3 yX3_setUnits yX3_setUnits, Cond.code yX3_setUnits cX3_setUnits 4 (some .int), Cond.fieldLink RX3 44 "LoopSchedulerModel" "thrown" "I", Cond.fieldLink RX3 59 "LoopSchedulerModel" "interval" "I", Cond.methodLink RX3 51 yX3_isIn, Cond.static yX3_isIn, Cond.code yX3_isIn cX3_isIn 3 (some .boolean), Cond.methodLink RX3 55 yX3_no, Cond.instanceMethod yX3_no]
def wsL_law0_r5 : List Cond := [Cond.selects RX3 yX3_no yX3_no, Cond.code yX3_no cX3_no 2 (some .int), Cond.methodLink RL 97 yX3_thrown, Cond.instanceMethod yX3_thrown, Cond.selects RX3 yX3_thrown yX3_thrown, Cond.code yX3_thrown cX3_thrown 1 (some .int), Cond.methodLink RL 100 yL_addOperation, Cond.static yL_addOperation, Cond.codeWith yL_addOperation cL_addOperation 5 (some .int) [(0, 10, 13, 15), (0, 10, 17, 20)], Cond.classLink RL 20 "java/lang/IllegalStateException", Cond.methodLink RL 17 yX2_addOperation, Cond.instanceMethod yX2_addOperation, Cond.selects RX2 yX2_addOperation yX2_addOperation, Cond.code yX2_addOperation cX2_addOperation 3 (some .int), Cond.classLink RX2 55 "java/lang/IllegalStateException", Cond.initialized "java/lang/IllegalStateException", Cond.fieldLink RX2 51 "LoopScheduler$Loop" "operations" "I", Cond.methodLink RX2 60 yX0_appendOperation, Cond.instanceMethod yX0_appendOperation, Cond.selects RX0 yX0_appendOperation yX0_appendOperation, Cond.code yX0_appendOperation cX0_appendOperation 3 (some .int), Cond.fieldLink RX0 36 "LoopScheduler$Loop" "operations" "I", Cond.methodLink RL 102 yX3_addOperation, Cond.instanceMethod yX3_addOperation]
def wsL_law0_r6 : List Cond := [Cond.selects RX3 yX3_addOperation yX3_addOperation, Cond.code yX3_addOperation cX3_addOperation 3 (some .int), Cond.fieldLink RX3 48 "LoopSchedulerModel" "operations" "I", Cond.methodLink RL 103 yL_addDependence, Cond.static yL_addDependence, Cond.codeWith yL_addDependence cL_addDependence 7 (some .int) [(0, 14, 17, 13), (0, 14, 21, 15), (0, 14, 25, 20)], Cond.methodLink RL 22 yX2_addDependence, Cond.instanceMethod yX2_addDependence, Cond.selects RX2 yX2_addDependence yX2_addDependence, Cond.code yX2_addDependence cX2_addDependence 5 (some .int), Cond.fieldLink RX2 72 "LoopScheduler$Loop" "dependences" "I", Cond.methodLink RX2 64 yX2_requireOperation, Cond.instanceMethod yX2_requireOperation, Cond.selects RX2 yX2_requireOperation yX2_requireOperation, Cond.code yX2_requireOperation cX2_requireOperation 2 none, Cond.methodLink RX2 67 yX2_requireDelay, Cond.static yX2_requireDelay, Cond.code yX2_requireDelay cX2_requireDelay 1 none, Cond.methodLink RX2 77 yX0_appendDependence, Cond.instanceMethod yX0_appendDependence, Cond.selects RX0 yX0_appendDependence yX0_appendDependence, Cond.code yX0_appendDependence cX0_appendDependence 5 (some .int), Cond.fieldLink RX0 40 "LoopScheduler$Loop" "dependences" "I", Cond.methodLink RL 106 yX3_addDependence]
def wsL_law0_r7 : List Cond := [Cond.instanceMethod yX3_addDependence, Cond.selects RX3 yX3_addDependence yX3_addDependence, Cond.code yX3_addDependence cX3_addDependence 5 (some .int), Cond.fieldLink RX3 66 "LoopSchedulerModel" "dependences" "I", Cond.methodLink RX3 62 yX3_isOperation, Cond.instanceMethod yX3_isOperation, Cond.selects RX3 yX3_isOperation yX3_isOperation, Cond.code yX3_isOperation cX3_isOperation 2 (some .boolean), Cond.methodLink RL 107 yL_setDelay, Cond.static yL_setDelay, Cond.codeWith yL_setDelay cL_setDelay 5 (some .int) [(0, 10, 13, 13), (0, 10, 17, 15)], Cond.methodLink RL 26 yX2_setDelay, Cond.instanceMethod yX2_setDelay, Cond.selects RX2 yX2_setDelay yX2_setDelay, Cond.code yX2_setDelay cX2_setDelay 4 (some .int), Cond.fieldLink RX2 86 "LoopScheduler$Loop" "delays" "[I", Cond.methodLink RL 109 yX3_setDelay, Cond.instanceMethod yX3_setDelay, Cond.selects RX3 yX3_setDelay yX3_setDelay, Cond.code yX3_setDelay cX3_setDelay 4 (some .int), Cond.methodLink RL 110 yX2_operationCount, Cond.instanceMethod yX2_operationCount, Cond.selects RX2 yX2_operationCount yX2_operationCount, Cond.code yX2_operationCount cX2_operationCount 1 (some .int)]
def wsL_law0_r8 : List Cond := [Cond.methodLink RL 113 yX3_operationCount, Cond.instanceMethod yX3_operationCount, Cond.selects RX3 yX3_operationCount yX3_operationCount, Cond.code yX3_operationCount cX3_operationCount 1 (some .int), Cond.methodLink RL 114 yX2_dependenceCount, Cond.instanceMethod yX2_dependenceCount, Cond.selects RX2 yX2_dependenceCount yX2_dependenceCount, Cond.code yX2_dependenceCount cX2_dependenceCount 1 (some .int), Cond.methodLink RL 117 yX3_dependenceCount, Cond.instanceMethod yX3_dependenceCount, Cond.selects RX3 yX3_dependenceCount yX3_dependenceCount, Cond.code yX3_dependenceCount cX3_dependenceCount 1 (some .int), Cond.methodLink RL 118 yX2_resourceBound, Cond.instanceMethod yX2_resourceBound, Cond.selects RX2 yX2_resourceBound yX2_resourceBound, Cond.code yX2_resourceBound cX2_resourceBound 1 (some .int), Cond.methodLink RX2 89 yX0_leastIntervalOfResources, Cond.instanceMethod yX0_leastIntervalOfResources, Cond.selects RX0 yX0_leastIntervalOfResources yX0_leastIntervalOfResources, Cond.code yX0_leastIntervalOfResources cX0_leastIntervalOfResources 3 (some .int), Cond.methodLink RX0 47 Lib.Math.max.name, Cond.static Lib.Math.max.name, Cond.initialized "java/lang/Math", Cond.code Lib.Math.max.name Lib.Math.max.code 2 (some .int)]
def wsL_law0_r9 : List Cond := [Cond.methodLink RX0 43 yX0_busyCycles, Cond.instanceMethod yX0_busyCycles, Cond.selects RX0 yX0_busyCycles yX0_busyCycles, Cond.code yX0_busyCycles cX0_busyCycles 4 (some .int), Cond.methodLink RL 121 yX3_resourceBound, Cond.instanceMethod yX3_resourceBound, Cond.selects RX3 yX3_resourceBound yX3_resourceBound, Cond.code yX3_resourceBound cX3_resourceBound 1 (some .int), Cond.methodLink RX3 69 yX3_byResources, Cond.instanceMethod yX3_byResources, Cond.selects RX3 yX3_byResources yX3_byResources, Cond.code yX3_byResources cX3_byResources 5 (some .int), Cond.methodLink RL 122 yX2_recurrenceBound, Cond.instanceMethod yX2_recurrenceBound, Cond.selects RX2 yX2_recurrenceBound yX2_recurrenceBound, Cond.code yX2_recurrenceBound cX2_recurrenceBound 1 (some .int), Cond.methodLink RX2 93 yX0_leastIntervalOfRecurrences, Cond.instanceMethod yX0_leastIntervalOfRecurrences, Cond.selects RX0 yX0_leastIntervalOfRecurrences yX0_leastIntervalOfRecurrences, Cond.code yX0_leastIntervalOfRecurrences cX0_leastIntervalOfRecurrences 3 (some .int), Cond.methodLink RX0 53 yX0_findHeights, Cond.instanceMethod yX0_findHeights, Cond.selects RX0 yX0_findHeights yX0_findHeights, Cond.code yX0_findHeights cX0_findHeights 3 (some .boolean)]
def wsL_law0_r10 : List Cond := [Cond.methodLink RX0 57 yJ7_fill_53178, Cond.static yJ7_fill_53178, Cond.initialized RJ7, Cond.code yJ7_fill_53178 cJ7_fill_53178 4 none, Cond.methodLink RX0 63 yX0_raiseHeights, Cond.instanceMethod yX0_raiseHeights, Cond.selects RX0 yX0_raiseHeights yX0_raiseHeights, Cond.code yX0_raiseHeights cX0_raiseHeights 5 (some .boolean), Cond.methodLink RL 125 yX3_recurrenceBound, Cond.instanceMethod yX3_recurrenceBound, Cond.selects RX3 yX3_recurrenceBound yX3_recurrenceBound, Cond.code yX3_recurrenceBound cX3_recurrenceBound 1 (some .int), Cond.methodLink RX3 83 yX3_byRecurrences, Cond.instanceMethod yX3_byRecurrences, Cond.selects RX3 yX3_byRecurrences yX3_byRecurrences, Cond.code yX3_byRecurrences cX3_byRecurrences 2 (some .int), Cond.methodLink RX3 80 yX3_findHeights, Cond.instanceMethod yX3_findHeights, Cond.selects RX3 yX3_findHeights yX3_findHeights, Cond.code yX3_findHeights cX3_findHeights 3 (some .boolean), Cond.methodLink RX3 73 yX3_grow, Cond.instanceMethod yX3_grow, Cond.selects RX3 yX3_grow yX3_grow, Cond.code yX3_grow cX3_grow 5 (some .boolean)]
def wsL_law0_r11 : List Cond := [Cond.methodLink RX3 76 yX3_lengthOf, Cond.instanceMethod yX3_lengthOf, Cond.selects RX3 yX3_lengthOf yX3_lengthOf, Cond.code yX3_lengthOf cX3_lengthOf 3 (some .int), Cond.methodLink RL 126 yL_height, Cond.static yL_height, Cond.codeWith yL_height cL_height 5 (some .int) [(0, 10, 13, 13), (0, 10, 17, 15)], Cond.methodLink RL 29 yX2_height, Cond.instanceMethod yX2_height, Cond.selects RX2 yX2_height yX2_height, Cond.code yX2_height cX2_height 4 (some .int), Cond.fieldLink RX2 101 "LoopScheduler$Loop" "heights" "[I", Cond.methodLink RX2 98 yX0_findHeights, Cond.methodLink RL 128 yX3_height, Cond.instanceMethod yX3_height, Cond.selects RX3 yX3_height yX3_height, Cond.code yX3_height cX3_height 4 (some .int), Cond.methodLink RL 129 yL_schedule, Cond.static yL_schedule, Cond.codeWith yL_schedule cL_schedule 4 (some .int) [(0, 9, 12, 15)], Cond.methodLink RL 32 yX2_schedule, Cond.instanceMethod yX2_schedule, Cond.selects RX2 yX2_schedule yX2_schedule, Cond.code yX2_schedule cX2_schedule 5 (some .int)]
def wsL_law0_r12 : List Cond := [Cond.fieldLink RX2 106 "LoopScheduler" "attemptCount" "I", Cond.methodLink RX2 109 Lib.Math.max.name, Cond.methodLink RX2 114 yX1_attempt, Cond.instanceMethod yX1_attempt, Cond.selects RX1 yX1_attempt yX1_attempt, Cond.code yX1_attempt cX1_attempt 4 (some .boolean), Cond.fieldLink RX1 43 "LoopScheduler$Loop" "operations" "I", Cond.methodLink RX1 31 yX0_findHeights, Cond.methodLink RX1 37 yJ7_fill_53178, Cond.methodLink RX1 46 yX1_highestUnplaced, Cond.instanceMethod yX1_highestUnplaced, Cond.selects RX1 yX1_highestUnplaced yX1_highestUnplaced, Cond.code yX1_highestUnplaced cX1_highestUnplaced 3 (some .int), Cond.fieldLink RX1 56 "LoopScheduler$Loop" "heights" "[I", Cond.methodLink RX1 50 yX1_placeAtFirst, Cond.instanceMethod yX1_placeAtFirst, Cond.selects RX1 yX1_placeAtFirst yX1_placeAtFirst, Cond.code yX1_placeAtFirst cX1_placeAtFirst 5 (some .boolean), Cond.methodLink RX1 66 Lib.Math.min.name, Cond.static Lib.Math.min.name, Cond.code Lib.Math.min.name Lib.Math.min.code 2 (some .int), Cond.methodLink RX1 59 yX1_earliestAllowed, Cond.instanceMethod yX1_earliestAllowed, Cond.selects RX1 yX1_earliestAllowed yX1_earliestAllowed]
def wsL_law0_r13 : List Cond := [Cond.code yX1_earliestAllowed cX1_earliestAllowed 5 (some .int), Cond.fieldLink RX1 80 "LoopScheduler$Loop" "dependences" "I", Cond.fieldLink RX1 83 "LoopScheduler$Loop" "sources" "[I", Cond.fieldLink RX1 86 "LoopScheduler$Loop" "targets" "[I", Cond.fieldLink RX1 89 "LoopScheduler$Loop" "delays" "[I", Cond.fieldLink RX1 92 "LoopScheduler$Loop" "distances" "[I", Cond.methodLink RX1 95 Lib.Math.max.name, Cond.methodLink RX1 63 yX1_latestAllowed, Cond.instanceMethod yX1_latestAllowed, Cond.selects RX1 yX1_latestAllowed yX1_latestAllowed, Cond.code yX1_latestAllowed cX1_latestAllowed 5 (some .int), Cond.constant RX1 100 (2147483647), Cond.methodLink RX1 72 yX1_hasUnits, Cond.instanceMethod yX1_hasUnits, Cond.selects RX1 yX1_hasUnits yX1_hasUnits, Cond.code yX1_hasUnits cX1_hasUnits 6 (some .boolean), Cond.fieldLink RX1 101 "LoopScheduler$Loop" "kinds" "[I", Cond.fieldLink RX1 104 "LoopScheduler$Loop" "busy" "[I", Cond.fieldLink RX1 107 "LoopScheduler$Loop" "units" "[I", Cond.methodLink RX1 76 yX1_place, Cond.instanceMethod yX1_place, Cond.selects RX1 yX1_place yX1_place, Cond.code yX1_place cX1_place 3 none, Cond.methodLink RX1 110 yX1_changeTaken]
def wsL_law0_r14 : List Cond := [Cond.instanceMethod yX1_changeTaken, Cond.selects RX1 yX1_changeTaken yX1_changeTaken, Cond.code yX1_changeTaken cX1_changeTaken 6 none, Cond.methodLink RX1 53 yX1_drop, Cond.methodLink RL 132 yX3_schedule, Cond.instanceMethod yX3_schedule, Cond.selects RX3 yX3_schedule yX3_schedule, Cond.code yX3_schedule cX3_schedule 4 (some .int), Cond.fieldLink RX3 108 "LoopSchedulerModel" "attempts" "I", Cond.methodLink RX3 97 Lib.Math.max.name, Cond.methodLink RX3 111 yX3_attempt, Cond.instanceMethod yX3_attempt, Cond.selects RX3 yX3_attempt yX3_attempt, Cond.code yX3_attempt cX3_attempt 3 (some .boolean), Cond.methodLink RX3 89 yX3_next, Cond.instanceMethod yX3_next, Cond.selects RX3 yX3_next yX3_next, Cond.code yX3_next cX3_next 3 (some .int), Cond.methodLink RX3 92 yX3_place, Cond.instanceMethod yX3_place, Cond.selects RX3 yX3_place yX3_place, Cond.code yX3_place cX3_place 6 (some .boolean), Cond.constant RX3 96 (1000000), Cond.methodLink RX3 102 Lib.Math.min.name]
def wsL_law0_r15 : List Cond := [Cond.methodLink RX3 105 yX3_fits, Cond.instanceMethod yX3_fits, Cond.selects RX3 yX3_fits yX3_fits, Cond.code yX3_fits cX3_fits 4 (some .boolean), Cond.methodLink RX3 86 yX3_count, Cond.instanceMethod yX3_count, Cond.selects RX3 yX3_count yX3_count, Cond.code yX3_count cX3_count 7 (some .boolean), Cond.methodLink RL 133 yX2_attempts, Cond.instanceMethod yX2_attempts, Cond.selects RX2 yX2_attempts yX2_attempts, Cond.code yX2_attempts cX2_attempts 1 (some .int), Cond.methodLink RL 136 yX3_attempts, Cond.instanceMethod yX3_attempts, Cond.selects RX3 yX3_attempts yX3_attempts, Cond.code yX3_attempts cX3_attempts 1 (some .int), Cond.methodLink RL 137 yX2_hasSchedule, Cond.instanceMethod yX2_hasSchedule, Cond.selects RX2 yX2_hasSchedule yX2_hasSchedule, Cond.code yX2_hasSchedule cX2_hasSchedule 1 (some .boolean), Cond.fieldLink RX2 117 "LoopScheduler$Timetable" "interval" "I", Cond.methodLink RL 141 yX3_hasSchedule, Cond.instanceMethod yX3_hasSchedule, Cond.selects RX3 yX3_hasSchedule yX3_hasSchedule]
def wsL_law0_r16 : List Cond := [Cond.code yX3_hasSchedule cX3_hasSchedule 1 (some .boolean), Cond.methodLink RL 142 yL_interval, Cond.static yL_interval, Cond.codeWith yL_interval cL_interval 3 (some .int) [(0, 8, 11, 20)], Cond.methodLink RL 36 yX2_interval, Cond.instanceMethod yX2_interval, Cond.selects RX2 yX2_interval yX2_interval, Cond.code yX2_interval cX2_interval 1 (some .int), Cond.methodLink RX2 120 yX2_requireSchedule, Cond.instanceMethod yX2_requireSchedule, Cond.selects RX2 yX2_requireSchedule yX2_requireSchedule, Cond.code yX2_requireSchedule cX2_requireSchedule 1 none, Cond.methodLink RL 145 yX3_interval, Cond.instanceMethod yX3_interval, Cond.selects RX3 yX3_interval yX3_interval, Cond.code yX3_interval cX3_interval 1 (some .int), Cond.methodLink RX3 114 yX3_has, Cond.instanceMethod yX3_has, Cond.selects RX3 yX3_has yX3_has, Cond.code yX3_has cX3_has 1 (some .boolean), Cond.methodLink RL 146 yL_time, Cond.static yL_time, Cond.codeWith yL_time cL_time 4 (some .int) [(0, 9, 12, 13), (0, 9, 15, 20)], Cond.methodLink RL 40 yX2_time]
def wsL_law0_r17 : List Cond := [Cond.instanceMethod yX2_time, Cond.selects RX2 yX2_time yX2_time, Cond.code yX2_time cX2_time 2 (some .int), Cond.fieldLink RX2 123 "LoopScheduler$Timetable" "times" "[I", Cond.methodLink RL 148 yX3_time, Cond.instanceMethod yX3_time, Cond.selects RX3 yX3_time yX3_time, Cond.code yX3_time cX3_time 2 (some .int), Cond.methodLink RX3 118 yX3_asks, Cond.instanceMethod yX3_asks, Cond.selects RX3 yX3_asks yX3_asks, Cond.code yX3_asks cX3_asks 2 (some .boolean), Cond.methodLink RL 149 yL_move, Cond.static yL_move, Cond.codeWith yL_move cL_move 5 (some .int) [(0, 17, 20, 13), (0, 17, 24, 15), (0, 17, 28, 20)], Cond.methodLink RL 43 yX2_move, Cond.instanceMethod yX2_move, Cond.selects RX2 yX2_move yX2_move, Cond.code yX2_move cX2_move 3 (some .boolean), Cond.methodLink RX2 128 yX1_replace, Cond.instanceMethod yX1_replace, Cond.selects RX1 yX1_replace yX1_replace, Cond.code yX1_replace cX1_replace 5 (some .boolean), Cond.methodLink RX1 114 yX1_lift]
def wsL_law0_r18 : List Cond := [Cond.instanceMethod yX1_lift, Cond.selects RX1 yX1_lift yX1_lift, Cond.code yX1_lift cX1_lift 2 none, Cond.methodLink RL 151 yX3_move, Cond.instanceMethod yX3_move, Cond.selects RX3 yX3_move yX3_move, Cond.code yX3_move cX3_move 4 (some .boolean), Cond.methodLink RX3 124 yX3_isValidWith, Cond.instanceMethod yX3_isValidWith, Cond.selects RX3 yX3_isValidWith yX3_isValidWith, Cond.code yX3_isValidWith cX3_isValidWith 5 (some .boolean), Cond.methodLink RX3 121 yX3_isValid, Cond.instanceMethod yX3_isValid, Cond.selects RX3 yX3_isValid yX3_isValid, Cond.code yX3_isValid cX3_isValid 2 (some .boolean), Cond.methodLink RL 152 yL_freedom, Cond.static yL_freedom, Cond.codeWith yL_freedom cL_freedom 4 (some .int) [(0, 9, 12, 13), (0, 9, 15, 20)], Cond.methodLink RL 47 yX2_freedom, Cond.instanceMethod yX2_freedom, Cond.selects RX2 yX2_freedom yX2_freedom, Cond.code yX2_freedom cX2_freedom 2 (some .int), Cond.methodLink RX2 132 yX1_countPlaces, Cond.instanceMethod yX1_countPlaces]
def wsL_law0_r19 : List Cond := [Cond.selects RX1 yX1_countPlaces yX1_countPlaces, Cond.code yX1_countPlaces cX1_countPlaces 6 (some .int), Cond.methodLink RL 154 yX3_freedom, Cond.instanceMethod yX3_freedom, Cond.selects RX3 yX3_freedom yX3_freedom, Cond.code yX3_freedom cX3_freedom 4 (some .int), Cond.methodLink RL 155 yL_stages, Cond.static yL_stages, Cond.codeWith yL_stages cL_stages 3 (some .int) [(0, 8, 11, 20)], Cond.methodLink RL 50 yX2_stages, Cond.instanceMethod yX2_stages, Cond.selects RX2 yX2_stages yX2_stages, Cond.code yX2_stages cX2_stages 1 (some .int), Cond.methodLink RX2 136 yX1_countStages, Cond.instanceMethod yX1_countStages, Cond.selects RX1 yX1_countStages yX1_countStages, Cond.code yX1_countStages cX1_countStages 1 (some .int), Cond.methodLink RX1 118 yX1_greatestTime, Cond.instanceMethod yX1_greatestTime, Cond.selects RX1 yX1_greatestTime yX1_greatestTime, Cond.code yX1_greatestTime cX1_greatestTime 3 (some .int), Cond.methodLink RL 157 yX3_stages, Cond.instanceMethod yX3_stages, Cond.selects RX3 yX3_stages yX3_stages]
def wsL_law0_r20 : List Cond := [Cond.code yX3_stages cX3_stages 1 (some .int), Cond.methodLink RX3 130 yX3_stageCount, Cond.instanceMethod yX3_stageCount, Cond.selects RX3 yX3_stageCount yX3_stageCount, Cond.code yX3_stageCount cX3_stageCount 1 (some .int), Cond.methodLink RX3 127 yX3_latest, Cond.instanceMethod yX3_latest, Cond.selects RX3 yX3_latest yX3_latest, Cond.code yX3_latest cX3_latest 3 (some .int), Cond.methodLink RL 158 yL_taken, Cond.static yL_taken, Cond.codeWith yL_taken cL_taken 5 (some .int) [(0, 10, 13, 13), (0, 10, 17, 20), (0, 10, 21, 15)], Cond.methodLink RL 53 yX2_taken, Cond.instanceMethod yX2_taken, Cond.selects RX2 yX2_taken yX2_taken, Cond.code yX2_taken cX2_taken 3 (some .int), Cond.fieldLink RX2 142 "LoopScheduler$Timetable" "takenUnits" "[[I", Cond.methodLink RX2 139 yX2_requireRow, Cond.instanceMethod yX2_requireRow, Cond.selects RX2 yX2_requireRow yX2_requireRow, Cond.code yX2_requireRow cX2_requireRow 2 none, Cond.methodLink RL 160 yX3_taken, Cond.instanceMethod yX3_taken, Cond.selects RX3 yX3_taken yX3_taken]
def wsL_law0_r21 : List Cond := [Cond.code yX3_taken cX3_taken 4 (some .int), Cond.methodLink RX3 133 yX3_takenIn, Cond.instanceMethod yX3_takenIn, Cond.selects RX3 yX3_takenIn yX3_takenIn, Cond.code yX3_takenIn cX3_takenIn 7 (some .int), Cond.methodLink RL 161 yL_lifetime, Cond.static yL_lifetime, Cond.codeWith yL_lifetime cL_lifetime 4 (some .int) [(0, 9, 12, 13), (0, 9, 15, 20)], Cond.methodLink RL 56 yX2_lifetime, Cond.instanceMethod yX2_lifetime, Cond.selects RX2 yX2_lifetime yX2_lifetime, Cond.code yX2_lifetime cX2_lifetime 2 (some .int), Cond.fieldLink RX2 149 "LoopScheduler$Timetable" "lifetimes" "[I", Cond.methodLink RX2 146 yX1_findLifetimes, Cond.instanceMethod yX1_findLifetimes, Cond.selects RX1 yX1_findLifetimes yX1_findLifetimes, Cond.code yX1_findLifetimes cX1_findLifetimes 4 none, Cond.methodLink RL 163 yX3_lifetime, Cond.instanceMethod yX3_lifetime, Cond.selects RX3 yX3_lifetime yX3_lifetime, Cond.code yX3_lifetime cX3_lifetime 2 (some .int), Cond.methodLink RX3 137 yX3_lifeOf, Cond.instanceMethod yX3_lifeOf, Cond.selects RX3 yX3_lifeOf yX3_lifeOf]
def wsL_law0_r22 : List Cond := [Cond.code yX3_lifeOf cX3_lifeOf 4 (some .int), Cond.methodLink RL 164 yL_live, Cond.static yL_live, Cond.codeWith yL_live cL_live 4 (some .int) [(0, 9, 12, 20), (0, 9, 15, 15)], Cond.methodLink RL 59 yX2_live, Cond.instanceMethod yX2_live, Cond.selects RX2 yX2_live yX2_live, Cond.code yX2_live cX2_live 2 (some .int), Cond.methodLink RX2 152 yX1_countLive, Cond.instanceMethod yX1_countLive, Cond.selects RX1 yX1_countLive yX1_countLive, Cond.code yX1_countLive cX1_countLive 5 (some .int), Cond.methodLink RX1 121 yJ9_floorMod_7cf53, Cond.static yJ9_floorMod_7cf53, Cond.initialized RJ9, Cond.code yJ9_floorMod_7cf53 cJ9_floorMod_7cf53 3 (some .int), Cond.methodLink RL 166 yX3_live, Cond.instanceMethod yX3_live, Cond.selects RX3 yX3_live yX3_live, Cond.code yX3_live cX3_live 2 (some .int), Cond.methodLink RX3 140 yX3_liveIn, Cond.instanceMethod yX3_liveIn, Cond.selects RX3 yX3_liveIn yX3_liveIn, Cond.code yX3_liveIn cX3_liveIn 5 (some .int)]
def wsL_law0_r23 : List Cond := [Cond.methodLink RL 167 yL_registers, Cond.static yL_registers, Cond.codeWith yL_registers cL_registers 3 (some .int) [(0, 8, 11, 20)], Cond.methodLink RL 62 yX2_registers, Cond.instanceMethod yX2_registers, Cond.selects RX2 yX2_registers yX2_registers, Cond.code yX2_registers cX2_registers 3 (some .int), Cond.methodLink RL 169 yX3_registers, Cond.instanceMethod yX3_registers, Cond.selects RX3 yX3_registers yX3_registers, Cond.code yX3_registers cX3_registers 3 (some .int), Cond.methodLink RL 170 yL_copies, Cond.static yL_copies, Cond.codeWith yL_copies cL_copies 4 (some .int) [(0, 9, 12, 13), (0, 9, 15, 20)], Cond.methodLink RL 65 yX2_copies, Cond.instanceMethod yX2_copies, Cond.selects RX2 yX2_copies yX2_copies, Cond.code yX2_copies cX2_copies 2 (some .int), Cond.methodLink RX2 155 yX1_countCopies, Cond.instanceMethod yX1_countCopies, Cond.selects RX1 yX1_countCopies yX1_countCopies, Cond.code yX1_countCopies cX1_countCopies 2 (some .int), Cond.methodLink RL 172 yX3_copies, Cond.instanceMethod yX3_copies]
def wsL_law0_r24 : List Cond := [Cond.selects RX3 yX3_copies yX3_copies, Cond.code yX3_copies cX3_copies 2 (some .int), Cond.methodLink RX3 143 yX3_copiesOf, Cond.instanceMethod yX3_copiesOf, Cond.selects RX3 yX3_copiesOf yX3_copiesOf, Cond.code yX3_copiesOf cX3_copiesOf 3 (some .int), Cond.methodLink RL 173 yL_unrolling, Cond.static yL_unrolling, Cond.codeWith yL_unrolling cL_unrolling 3 (some .int) [(0, 8, 11, 20)], Cond.methodLink RL 68 yX2_unrolling, Cond.instanceMethod yX2_unrolling, Cond.selects RX2 yX2_unrolling yX2_unrolling, Cond.code yX2_unrolling cX2_unrolling 4 (some .int), Cond.constantLong RX2 162 (1000000), Cond.constant RX2 164 (1000000), Cond.methodLink RX2 158 yX2_leastCommonMultiple, Cond.static yX2_leastCommonMultiple, Cond.code yX2_leastCommonMultiple cX2_leastCommonMultiple 4 (some .long), Cond.methodLink RL 175 yX3_unrolling, Cond.instanceMethod yX3_unrolling, Cond.selects RX3 yX3_unrolling yX3_unrolling, Cond.code yX3_unrolling cX3_unrolling 6 (some .int), Cond.constantLong RX3 146 (1000000), Cond.methodLink RL 176 yL_cycles]
def wsL_law0_r25 : List Cond := [Cond.static yL_cycles, Cond.codeWith yL_cycles cL_cycles 4 (some .int) [(0, 9, 12, 20), (0, 9, 15, 15)], Cond.methodLink RL 71 yX2_cycles, Cond.instanceMethod yX2_cycles, Cond.selects RX2 yX2_cycles yX2_cycles, Cond.code yX2_cycles cX2_cycles 2 (some .int), Cond.methodLink RX2 165 yX2_requireIterations, Cond.static yX2_requireIterations, Cond.code yX2_requireIterations cX2_requireIterations 1 none, Cond.methodLink RX2 168 yX1_greatestTime, Cond.methodLink RL 178 yX3_cycles, Cond.instanceMethod yX3_cycles, Cond.selects RX3 yX3_cycles yX3_cycles, Cond.code yX3_cycles cX3_cycles 2 (some .int), Cond.methodLink RL 179 yL_issued, Cond.static yL_issued, Cond.codeWith yL_issued cL_issued 5 (some .int) [(0, 10, 13, 20), (0, 10, 17, 15)], Cond.methodLink RL 74 yX2_issued, Cond.instanceMethod yX2_issued, Cond.selects RX2 yX2_issued yX2_issued, Cond.code yX2_issued cX2_issued 5 (some .int), Cond.methodLink RX2 171 yX2_requireCycle, Cond.static yX2_requireCycle, Cond.code yX2_requireCycle cX2_requireCycle 1 none]
def wsL_law0_r26 : List Cond := [Cond.methodLink RX2 174 yX2_isIssued, Cond.instanceMethod yX2_isIssued, Cond.selects RX2 yX2_isIssued yX2_isIssued, Cond.code yX2_isIssued cX2_isIssued 5 (some .boolean), Cond.methodLink RL 181 yX3_issued, Cond.instanceMethod yX3_issued, Cond.selects RX3 yX3_issued yX3_issued, Cond.code yX3_issued cX3_issued 3 (some .int), Cond.methodLink RX3 148 yX3_issuedIn, Cond.instanceMethod yX3_issuedIn, Cond.selects RX3 yX3_issuedIn yX3_issuedIn, Cond.code yX3_issuedIn cX3_issuedIn 6 (some .int), Cond.methodLink RL 182 yL_issue, Cond.static yL_issue, Cond.codeWith yL_issue cL_issue 6 (some .int) [(0, 12, 15, 20), (0, 12, 19, 15), (0, 12, 23, 13)], Cond.methodLink RL 77 yX2_issue, Cond.instanceMethod yX2_issue, Cond.selects RX2 yX2_issue yX2_issue, Cond.code yX2_issue cX2_issue 5 (some .int), Cond.methodLink RX2 178 yX2_countIssuedBefore, Cond.instanceMethod yX2_countIssuedBefore, Cond.selects RX2 yX2_countIssuedBefore yX2_countIssuedBefore, Cond.code yX2_countIssuedBefore cX2_countIssuedBefore 7 (some .int), Cond.methodLink RX2 182 yX2_issueNumber]
def wsL_law0_r27 : List Cond := [Cond.instanceMethod yX2_issueNumber, Cond.selects RX2 yX2_issueNumber yX2_issueNumber, Cond.code yX2_issueNumber cX2_issueNumber 4 (some .int), Cond.methodLink RL 185 yX3_issue, Cond.instanceMethod yX3_issue, Cond.selects RX3 yX3_issue yX3_issue, Cond.code yX3_issue cX3_issue 4 (some .int), Cond.methodLink RX3 151 yX3_issueAt, Cond.instanceMethod yX3_issueAt, Cond.selects RX3 yX3_issueAt yX3_issueAt, Cond.code yX3_issueAt cX3_issueAt 7 (some .int), Cond.methodLink RL 186 yL_prologue, Cond.static yL_prologue, Cond.codeWith yL_prologue cL_prologue 3 (some .int) [(0, 8, 11, 20)], Cond.methodLink RL 81 yX2_prologue, Cond.instanceMethod yX2_prologue, Cond.selects RX2 yX2_prologue yX2_prologue, Cond.code yX2_prologue cX2_prologue 4 (some .int), Cond.methodLink RX2 187 yX1_stageOf, Cond.instanceMethod yX1_stageOf, Cond.selects RX1 yX1_stageOf yX1_stageOf, Cond.code yX1_stageOf cX1_stageOf 2 (some .int), Cond.methodLink RL 188 yX3_prologue, Cond.instanceMethod yX3_prologue]
def wsL_law0_r28 : List Cond := [Cond.selects RX3 yX3_prologue yX3_prologue, Cond.code yX3_prologue cX3_prologue 3 (some .int), Cond.methodLink RL 189 yL_epilogue, Cond.static yL_epilogue, Cond.codeWith yL_epilogue cL_epilogue 3 (some .int) [(0, 8, 11, 20)], Cond.methodLink RL 84 yX2_epilogue, Cond.instanceMethod yX2_epilogue, Cond.selects RX2 yX2_epilogue yX2_epilogue, Cond.code yX2_epilogue cX2_epilogue 3 (some .int), Cond.methodLink RL 191 yX3_epilogue, Cond.instanceMethod yX3_epilogue, Cond.selects RX3 yX3_epilogue yX3_epilogue, Cond.code yX3_epilogue cX3_epilogue 4 (some .int), Cond.methodLink RL 192 yX2_digest, Cond.instanceMethod yX2_digest, Cond.selects RX2 yX2_digest yX2_digest, Cond.code yX2_digest cX2_digest 4 (some .long), Cond.constantLong RX2 190 (79), Cond.fieldLink RX2 195 "LoopScheduler$Loop" "kinds" "[I", Cond.fieldLink RX2 198 "LoopScheduler$Loop" "busy" "[I", Cond.fieldLink RX2 201 "LoopScheduler$Loop" "sources" "[I", Cond.fieldLink RX2 204 "LoopScheduler$Loop" "targets" "[I", Cond.fieldLink RX2 207 "LoopScheduler$Loop" "distances" "[I", Cond.methodLink RX2 192 yX2_digestWith]
def wsL_law0_r29 : List Cond := [Cond.static yX2_digestWith, Cond.code yX2_digestWith cX2_digestWith 3 (some .long), Cond.constantLong RX2 210 (31), Cond.methodLink RL 196 yX3_digest, Cond.instanceMethod yX3_digest, Cond.selects RX3 yX3_digest yX3_digest, Cond.code yX3_digest cX3_digest 4 (some .long), Cond.constantLong RX3 154 (79), Cond.constantLong RX3 156 (31)]
def wsL_law0 : List Cond := (wsL_law0_r1 ++ (wsL_law0_r2 ++ (wsL_law0_r3 ++ (wsL_law0_r4 ++ (wsL_law0_r5 ++ (wsL_law0_r6 ++ (wsL_law0_r7 ++ (wsL_law0_r8 ++ (wsL_law0_r9 ++ (wsL_law0_r10 ++ (wsL_law0_r11 ++ (wsL_law0_r12 ++ (wsL_law0_r13 ++ (wsL_law0_r14 ++ (wsL_law0_r15 ++ (wsL_law0_r16 ++ (wsL_law0_r17 ++ (wsL_law0_r18 ++ (wsL_law0_r19 ++ (wsL_law0_r20 ++ (wsL_law0_r21 ++ (wsL_law0_r22 ++ (wsL_law0_r23 ++ (wsL_law0_r24 ++ (wsL_law0_r25 ++ (wsL_law0_r26 ++ (wsL_law0_r27 ++ (wsL_law0_r28 ++ wsL_law0_r29)))))))))))))))))))))))))))) ++ wsX20 ++ wsX30 ++ wsX00 ++ wsX10 ++ ([] : List Cond)
def wsL_law : List Cond := wsL_law0 ++ (vx_atS RX2 33 "java/lang/IllegalArgumentException" ["java/lang/RuntimeException", "java/lang/Exception"]).filter goodWord ++ (vx_atS RX2 85 "java/lang/IndexOutOfBoundsException" ["java/lang/RuntimeException", "java/lang/Exception"]).filter goodWord ++ (vx_atS RX2 59 "java/lang/IllegalStateException" ["java/lang/RuntimeException", "java/lang/Exception"]).filter goodWord
theorem inlX0 : ∀ w ∈ wsX00, w ∈ wsL_law := fun _ h => List.mem_append_left _ (List.mem_append_left _ (List.mem_append_left _ (List.mem_append_left _ (List.mem_append_left _ (List.mem_append_right _ h)))))
theorem inlX1 : ∀ w ∈ wsX10, w ∈ wsL_law := fun _ h => List.mem_append_left _ (List.mem_append_left _ (List.mem_append_left _ (List.mem_append_left _ (List.mem_append_right _ h))))
theorem inlX2 : ∀ w ∈ wsX20, w ∈ wsL_law := fun _ h => List.mem_append_left _ (List.mem_append_left _ (List.mem_append_left _ (List.mem_append_left _ (List.mem_append_left _ (List.mem_append_left _ (List.mem_append_left _ (List.mem_append_right _ h)))))))
theorem inlX3 : ∀ w ∈ wsX30, w ∈ wsL_law := fun _ h => List.mem_append_left _ (List.mem_append_left _ (List.mem_append_left _ (List.mem_append_left _ (List.mem_append_left _ (List.mem_append_left _ (List.mem_append_right _ h))))))
abbrev vwCl : List vw_C := [(RX0, TX0, 10), (RX1, TX1, 5), (RX2, TX2, 3), (RX3, TX3, 16)]
end
section
theorem dX0_init_0 : decode cX0_init 0 = .ok (.aload_n 0, 1) := by decide +kernel
theorem dX0_init_1 : decode cX0_init 1 = .ok (.invokespecial 3, 3) := by decide +kernel
theorem dX0_init_4 : decode cX0_init 4 = .ok (.aload_n 0, 1) := by decide +kernel
theorem dX0_init_5 : decode cX0_init 5 = .ok (.iconst 3, 1) := by decide +kernel
theorem dX0_init_6 : decode cX0_init 6 = .ok (.newarray .int, 2) := by decide +kernel
theorem dX0_init_8 : decode cX0_init 8 = .ok (.putfield 9, 3) := by decide +kernel
theorem dX0_init_11 : decode cX0_init 11 = .ok (.aload_n 0, 1) := by decide +kernel
theorem dX0_init_12 : decode cX0_init 12 = .ok (.bipush 14, 2) := by decide +kernel
theorem dX0_init_14 : decode cX0_init 14 = .ok (.newarray .int, 2) := by decide +kernel
theorem dX0_init_16 : decode cX0_init 16 = .ok (.putfield 15, 3) := by decide +kernel
theorem dX0_init_19 : decode cX0_init 19 = .ok (.aload_n 0, 1) := by decide +kernel
theorem dX0_init_20 : decode cX0_init 20 = .ok (.bipush 14, 2) := by decide +kernel
theorem dX0_init_22 : decode cX0_init 22 = .ok (.newarray .int, 2) := by decide +kernel
theorem dX0_init_24 : decode cX0_init 24 = .ok (.putfield 18, 3) := by decide +kernel
theorem dX0_init_27 : decode cX0_init 27 = .ok (.aload_n 0, 1) := by decide +kernel
theorem dX0_init_28 : decode cX0_init 28 = .ok (.bipush 40, 2) := by decide +kernel
theorem dX0_init_30 : decode cX0_init 30 = .ok (.newarray .int, 2) := by decide +kernel
theorem dX0_init_32 : decode cX0_init 32 = .ok (.putfield 21, 3) := by decide +kernel
theorem dX0_init_35 : decode cX0_init 35 = .ok (.aload_n 0, 1) := by decide +kernel
theorem dX0_init_36 : decode cX0_init 36 = .ok (.bipush 40, 2) := by decide +kernel
theorem dX0_init_38 : decode cX0_init 38 = .ok (.newarray .int, 2) := by decide +kernel
theorem dX0_init_40 : decode cX0_init 40 = .ok (.putfield 24, 3) := by decide +kernel
theorem dX0_init_43 : decode cX0_init 43 = .ok (.aload_n 0, 1) := by decide +kernel
theorem dX0_init_44 : decode cX0_init 44 = .ok (.bipush 40, 2) := by decide +kernel
theorem dX0_init_46 : decode cX0_init 46 = .ok (.newarray .int, 2) := by decide +kernel
theorem dX0_init_48 : decode cX0_init 48 = .ok (.putfield 27, 3) := by decide +kernel
theorem dX0_init_51 : decode cX0_init 51 = .ok (.aload_n 0, 1) := by decide +kernel
theorem dX0_init_52 : decode cX0_init 52 = .ok (.bipush 40, 2) := by decide +kernel
theorem dX0_init_54 : decode cX0_init 54 = .ok (.newarray .int, 2) := by decide +kernel
theorem dX0_init_56 : decode cX0_init 56 = .ok (.putfield 30, 3) := by decide +kernel
theorem dX0_init_59 : decode cX0_init 59 = .ok (.aload_n 0, 1) := by decide +kernel
theorem dX0_init_60 : decode cX0_init 60 = .ok (.bipush 14, 2) := by decide +kernel
theorem dX0_init_62 : decode cX0_init 62 = .ok (.newarray .int, 2) := by decide +kernel
theorem dX0_init_64 : decode cX0_init 64 = .ok (.putfield 33, 3) := by decide +kernel
theorem dX0_init_67 : decode cX0_init 67 = .ok (.iconst 0, 1) := by decide +kernel
theorem dX0_init_68 : decode cX0_init 68 = .ok (.istore_n 1, 1) := by decide +kernel
theorem dX0_init_69 : decode cX0_init 69 = .ok (.iload_n 1, 1) := by decide +kernel
theorem dX0_init_70 : decode cX0_init 70 = .ok (.iconst 3, 1) := by decide +kernel
theorem dX0_init_71 : decode cX0_init 71 = .ok (.if_icmp .ge 16, 3) := by decide +kernel
theorem dX0_init_74 : decode cX0_init 74 = .ok (.aload_n 0, 1) := by decide +kernel
theorem dX0_init_75 : decode cX0_init 75 = .ok (.getfield 9, 3) := by decide +kernel
theorem dX0_init_78 : decode cX0_init 78 = .ok (.iload_n 1, 1) := by decide +kernel
theorem dX0_init_79 : decode cX0_init 79 = .ok (.iconst 1, 1) := by decide +kernel
theorem dX0_init_80 : decode cX0_init 80 = .ok (.iastore, 1) := by decide +kernel
theorem dX0_init_81 : decode cX0_init 81 = .ok (.iinc 1 1, 3) := by decide +kernel
theorem dX0_init_84 : decode cX0_init 84 = .ok (.goto (-15), 3) := by decide +kernel
theorem dX0_init_87 : decode cX0_init 87 = .ok (.return_, 1) := by decide +kernel
theorem dX0_appendOperation_0 : decode cX0_appendOperation 0 = .ok (.aload_n 0, 1) := by decide +kernel
theorem dX0_appendOperation_1 : decode cX0_appendOperation 1 = .ok (.getfield 15, 3) := by decide +kernel
theorem dX0_appendOperation_4 : decode cX0_appendOperation 4 = .ok (.aload_n 0, 1) := by decide +kernel
theorem dX0_appendOperation_5 : decode cX0_appendOperation 5 = .ok (.getfield 36, 3) := by decide +kernel
theorem dX0_appendOperation_8 : decode cX0_appendOperation 8 = .ok (.iload_n 1, 1) := by decide +kernel
theorem dX0_appendOperation_9 : decode cX0_appendOperation 9 = .ok (.iastore, 1) := by decide +kernel
theorem dX0_appendOperation_10 : decode cX0_appendOperation 10 = .ok (.aload_n 0, 1) := by decide +kernel
theorem dX0_appendOperation_11 : decode cX0_appendOperation 11 = .ok (.getfield 18, 3) := by decide +kernel
theorem dX0_appendOperation_14 : decode cX0_appendOperation 14 = .ok (.aload_n 0, 1) := by decide +kernel
theorem dX0_appendOperation_15 : decode cX0_appendOperation 15 = .ok (.getfield 36, 3) := by decide +kernel
theorem dX0_appendOperation_18 : decode cX0_appendOperation 18 = .ok (.iload_n 2, 1) := by decide +kernel
theorem dX0_appendOperation_19 : decode cX0_appendOperation 19 = .ok (.iastore, 1) := by decide +kernel
theorem dX0_appendOperation_20 : decode cX0_appendOperation 20 = .ok (.aload_n 0, 1) := by decide +kernel
theorem dX0_appendOperation_21 : decode cX0_appendOperation 21 = .ok (.dup, 1) := by decide +kernel
theorem dX0_appendOperation_22 : decode cX0_appendOperation 22 = .ok (.getfield 36, 3) := by decide +kernel
theorem dX0_appendOperation_25 : decode cX0_appendOperation 25 = .ok (.iconst 1, 1) := by decide +kernel
theorem dX0_appendOperation_26 : decode cX0_appendOperation 26 = .ok (.iadd, 1) := by decide +kernel
theorem dX0_appendOperation_27 : decode cX0_appendOperation 27 = .ok (.putfield 36, 3) := by decide +kernel
theorem dX0_appendOperation_30 : decode cX0_appendOperation 30 = .ok (.aload_n 0, 1) := by decide +kernel
theorem dX0_appendOperation_31 : decode cX0_appendOperation 31 = .ok (.getfield 36, 3) := by decide +kernel
theorem dX0_appendOperation_34 : decode cX0_appendOperation 34 = .ok (.iconst 1, 1) := by decide +kernel
theorem dX0_appendOperation_35 : decode cX0_appendOperation 35 = .ok (.isub, 1) := by decide +kernel
theorem dX0_appendOperation_36 : decode cX0_appendOperation 36 = .ok (.ireturn, 1) := by decide +kernel
theorem dX0_appendDependence_0 : decode cX0_appendDependence 0 = .ok (.aload_n 0, 1) := by decide +kernel
theorem dX0_appendDependence_1 : decode cX0_appendDependence 1 = .ok (.getfield 21, 3) := by decide +kernel
theorem dX0_appendDependence_4 : decode cX0_appendDependence 4 = .ok (.aload_n 0, 1) := by decide +kernel
theorem dX0_appendDependence_5 : decode cX0_appendDependence 5 = .ok (.getfield 40, 3) := by decide +kernel
theorem dX0_appendDependence_8 : decode cX0_appendDependence 8 = .ok (.iload_n 1, 1) := by decide +kernel
theorem dX0_appendDependence_9 : decode cX0_appendDependence 9 = .ok (.iastore, 1) := by decide +kernel
theorem dX0_appendDependence_10 : decode cX0_appendDependence 10 = .ok (.aload_n 0, 1) := by decide +kernel
theorem dX0_appendDependence_11 : decode cX0_appendDependence 11 = .ok (.getfield 24, 3) := by decide +kernel
theorem dX0_appendDependence_14 : decode cX0_appendDependence 14 = .ok (.aload_n 0, 1) := by decide +kernel
theorem dX0_appendDependence_15 : decode cX0_appendDependence 15 = .ok (.getfield 40, 3) := by decide +kernel
theorem dX0_appendDependence_18 : decode cX0_appendDependence 18 = .ok (.iload_n 2, 1) := by decide +kernel
theorem dX0_appendDependence_19 : decode cX0_appendDependence 19 = .ok (.iastore, 1) := by decide +kernel
theorem dX0_appendDependence_20 : decode cX0_appendDependence 20 = .ok (.aload_n 0, 1) := by decide +kernel
theorem dX0_appendDependence_21 : decode cX0_appendDependence 21 = .ok (.getfield 27, 3) := by decide +kernel
theorem dX0_appendDependence_24 : decode cX0_appendDependence 24 = .ok (.aload_n 0, 1) := by decide +kernel
theorem dX0_appendDependence_25 : decode cX0_appendDependence 25 = .ok (.getfield 40, 3) := by decide +kernel
theorem dX0_appendDependence_28 : decode cX0_appendDependence 28 = .ok (.iload_n 3, 1) := by decide +kernel
theorem dX0_appendDependence_29 : decode cX0_appendDependence 29 = .ok (.iastore, 1) := by decide +kernel
theorem dX0_appendDependence_30 : decode cX0_appendDependence 30 = .ok (.aload_n 0, 1) := by decide +kernel
theorem dX0_appendDependence_31 : decode cX0_appendDependence 31 = .ok (.getfield 30, 3) := by decide +kernel
theorem dX0_appendDependence_34 : decode cX0_appendDependence 34 = .ok (.aload_n 0, 1) := by decide +kernel
theorem dX0_appendDependence_35 : decode cX0_appendDependence 35 = .ok (.getfield 40, 3) := by decide +kernel
theorem dX0_appendDependence_38 : decode cX0_appendDependence 38 = .ok (.iload 4, 2) := by decide +kernel
theorem dX0_appendDependence_40 : decode cX0_appendDependence 40 = .ok (.iastore, 1) := by decide +kernel
theorem dX0_appendDependence_41 : decode cX0_appendDependence 41 = .ok (.aload_n 0, 1) := by decide +kernel
theorem dX0_appendDependence_42 : decode cX0_appendDependence 42 = .ok (.dup, 1) := by decide +kernel
theorem dX0_appendDependence_43 : decode cX0_appendDependence 43 = .ok (.getfield 40, 3) := by decide +kernel
theorem dX0_appendDependence_46 : decode cX0_appendDependence 46 = .ok (.iconst 1, 1) := by decide +kernel
theorem dX0_appendDependence_47 : decode cX0_appendDependence 47 = .ok (.iadd, 1) := by decide +kernel
theorem dX0_appendDependence_48 : decode cX0_appendDependence 48 = .ok (.putfield 40, 3) := by decide +kernel
theorem dX0_appendDependence_51 : decode cX0_appendDependence 51 = .ok (.aload_n 0, 1) := by decide +kernel
theorem dX0_appendDependence_52 : decode cX0_appendDependence 52 = .ok (.getfield 40, 3) := by decide +kernel
theorem dX0_appendDependence_55 : decode cX0_appendDependence 55 = .ok (.iconst 1, 1) := by decide +kernel
theorem dX0_appendDependence_56 : decode cX0_appendDependence 56 = .ok (.isub, 1) := by decide +kernel
theorem dX0_appendDependence_57 : decode cX0_appendDependence 57 = .ok (.ireturn, 1) := by decide +kernel
set_option maxRecDepth 20000 in
theorem ggX0_leastIntervalOfResources_X0_busyCycles : GoodIn wsX0_leastIntervalOfResources wsX0_busyCycles := goodIn_r _ [10, 11, 12, 13, 14, 15, 16, 17, 18, 19, 20, 21, 22, 23] (by decide +kernel) (by decide +kernel)
set_option maxRecDepth 20000 in
theorem gX0_leastIntervalOfResources_X0_busyCycles : GoodIn wsX0_leastIntervalOfResources (wsV RX0 43 RX0 yX0_busyCycles wsX0_busyCycles) := goodIn_app (goodIn_of _ (by decide +kernel)) ggX0_leastIntervalOfResources_X0_busyCycles
theorem dX0_leastIntervalOfResources_0 : decode cX0_leastIntervalOfResources 0 = .ok (.iconst 1, 1) := by decide +kernel
theorem dX0_leastIntervalOfResources_1 : decode cX0_leastIntervalOfResources 1 = .ok (.istore_n 1, 1) := by decide +kernel
theorem dX0_leastIntervalOfResources_2 : decode cX0_leastIntervalOfResources 2 = .ok (.iconst 0, 1) := by decide +kernel
theorem dX0_leastIntervalOfResources_3 : decode cX0_leastIntervalOfResources 3 = .ok (.istore_n 2, 1) := by decide +kernel
theorem dX0_leastIntervalOfResources_4 : decode cX0_leastIntervalOfResources 4 = .ok (.iload_n 2, 1) := by decide +kernel
theorem dX0_leastIntervalOfResources_5 : decode cX0_leastIntervalOfResources 5 = .ok (.iconst 3, 1) := by decide +kernel
theorem dX0_leastIntervalOfResources_6 : decode cX0_leastIntervalOfResources 6 = .ok (.if_icmp .ge 35, 3) := by decide +kernel
theorem dX0_leastIntervalOfResources_9 : decode cX0_leastIntervalOfResources 9 = .ok (.iload_n 1, 1) := by decide +kernel
theorem dX0_leastIntervalOfResources_10 : decode cX0_leastIntervalOfResources 10 = .ok (.aload_n 0, 1) := by decide +kernel
theorem dX0_leastIntervalOfResources_11 : decode cX0_leastIntervalOfResources 11 = .ok (.iload_n 2, 1) := by decide +kernel
theorem dX0_leastIntervalOfResources_12 : decode cX0_leastIntervalOfResources 12 = .ok (.invokevirtual 43, 3) := by decide +kernel
theorem dX0_leastIntervalOfResources_15 : decode cX0_leastIntervalOfResources 15 = .ok (.aload_n 0, 1) := by decide +kernel
theorem dX0_leastIntervalOfResources_16 : decode cX0_leastIntervalOfResources 16 = .ok (.getfield 9, 3) := by decide +kernel
theorem dX0_leastIntervalOfResources_19 : decode cX0_leastIntervalOfResources 19 = .ok (.iload_n 2, 1) := by decide +kernel
theorem dX0_leastIntervalOfResources_20 : decode cX0_leastIntervalOfResources 20 = .ok (.iaload, 1) := by decide +kernel
theorem dX0_leastIntervalOfResources_21 : decode cX0_leastIntervalOfResources 21 = .ok (.iadd, 1) := by decide +kernel
theorem dX0_leastIntervalOfResources_22 : decode cX0_leastIntervalOfResources 22 = .ok (.iconst 1, 1) := by decide +kernel
theorem dX0_leastIntervalOfResources_23 : decode cX0_leastIntervalOfResources 23 = .ok (.isub, 1) := by decide +kernel
theorem dX0_leastIntervalOfResources_24 : decode cX0_leastIntervalOfResources 24 = .ok (.aload_n 0, 1) := by decide +kernel
theorem dX0_leastIntervalOfResources_25 : decode cX0_leastIntervalOfResources 25 = .ok (.getfield 9, 3) := by decide +kernel
theorem dX0_leastIntervalOfResources_28 : decode cX0_leastIntervalOfResources 28 = .ok (.iload_n 2, 1) := by decide +kernel
theorem dX0_leastIntervalOfResources_29 : decode cX0_leastIntervalOfResources 29 = .ok (.iaload, 1) := by decide +kernel
theorem dX0_leastIntervalOfResources_30 : decode cX0_leastIntervalOfResources 30 = .ok (.idiv, 1) := by decide +kernel
theorem dX0_leastIntervalOfResources_31 : decode cX0_leastIntervalOfResources 31 = .ok (.invokestatic 47, 3) := by decide +kernel
theorem dX0_leastIntervalOfResources_34 : decode cX0_leastIntervalOfResources 34 = .ok (.istore_n 1, 1) := by decide +kernel
theorem dX0_leastIntervalOfResources_35 : decode cX0_leastIntervalOfResources 35 = .ok (.iinc 2 1, 3) := by decide +kernel
theorem dX0_leastIntervalOfResources_38 : decode cX0_leastIntervalOfResources 38 = .ok (.goto (-34), 3) := by decide +kernel
theorem dX0_leastIntervalOfResources_41 : decode cX0_leastIntervalOfResources 41 = .ok (.iload_n 1, 1) := by decide +kernel
theorem dX0_leastIntervalOfResources_42 : decode cX0_leastIntervalOfResources 42 = .ok (.ireturn, 1) := by decide +kernel
theorem dX0_busyCycles_0 : decode cX0_busyCycles 0 = .ok (.iconst 0, 1) := by decide +kernel
theorem dX0_busyCycles_1 : decode cX0_busyCycles 1 = .ok (.istore_n 2, 1) := by decide +kernel
theorem dX0_busyCycles_2 : decode cX0_busyCycles 2 = .ok (.iconst 0, 1) := by decide +kernel
theorem dX0_busyCycles_3 : decode cX0_busyCycles 3 = .ok (.istore_n 3, 1) := by decide +kernel
theorem dX0_busyCycles_4 : decode cX0_busyCycles 4 = .ok (.iload_n 3, 1) := by decide +kernel
theorem dX0_busyCycles_5 : decode cX0_busyCycles 5 = .ok (.aload_n 0, 1) := by decide +kernel
theorem dX0_busyCycles_6 : decode cX0_busyCycles 6 = .ok (.getfield 36, 3) := by decide +kernel
theorem dX0_busyCycles_9 : decode cX0_busyCycles 9 = .ok (.if_icmp .ge 28, 3) := by decide +kernel
theorem dX0_busyCycles_12 : decode cX0_busyCycles 12 = .ok (.aload_n 0, 1) := by decide +kernel
theorem dX0_busyCycles_13 : decode cX0_busyCycles 13 = .ok (.getfield 15, 3) := by decide +kernel
theorem dX0_busyCycles_16 : decode cX0_busyCycles 16 = .ok (.iload_n 3, 1) := by decide +kernel
theorem dX0_busyCycles_17 : decode cX0_busyCycles 17 = .ok (.iaload, 1) := by decide +kernel
theorem dX0_busyCycles_18 : decode cX0_busyCycles 18 = .ok (.iload_n 1, 1) := by decide +kernel
theorem dX0_busyCycles_19 : decode cX0_busyCycles 19 = .ok (.if_icmp .ne 12, 3) := by decide +kernel
theorem dX0_busyCycles_22 : decode cX0_busyCycles 22 = .ok (.iload_n 2, 1) := by decide +kernel
theorem dX0_busyCycles_23 : decode cX0_busyCycles 23 = .ok (.aload_n 0, 1) := by decide +kernel
theorem dX0_busyCycles_24 : decode cX0_busyCycles 24 = .ok (.getfield 18, 3) := by decide +kernel
theorem dX0_busyCycles_27 : decode cX0_busyCycles 27 = .ok (.iload_n 3, 1) := by decide +kernel
theorem dX0_busyCycles_28 : decode cX0_busyCycles 28 = .ok (.iaload, 1) := by decide +kernel
theorem dX0_busyCycles_29 : decode cX0_busyCycles 29 = .ok (.iadd, 1) := by decide +kernel
theorem dX0_busyCycles_30 : decode cX0_busyCycles 30 = .ok (.istore_n 2, 1) := by decide +kernel
theorem dX0_busyCycles_31 : decode cX0_busyCycles 31 = .ok (.iinc 3 1, 3) := by decide +kernel
theorem dX0_busyCycles_34 : decode cX0_busyCycles 34 = .ok (.goto (-30), 3) := by decide +kernel
theorem dX0_busyCycles_37 : decode cX0_busyCycles 37 = .ok (.iload_n 2, 1) := by decide +kernel
theorem dX0_busyCycles_38 : decode cX0_busyCycles 38 = .ok (.ireturn, 1) := by decide +kernel
set_option maxRecDepth 20000 in
theorem ggX0_leastIntervalOfRecurrences_X0_findHeights : GoodIn wsX0_leastIntervalOfRecurrences wsX0_findHeights := goodIn_r _ [5, 6, 7, 8, 9, 10, 11, 12, 13, 14, 4, 15, 16, 17, 18, 19, 20, 21, 22, 23, 24, 25, 26, 27, 28, 29, 30] (by decide +kernel) (by decide +kernel)
set_option maxRecDepth 20000 in
theorem gX0_leastIntervalOfRecurrences_X0_findHeights : GoodIn wsX0_leastIntervalOfRecurrences (wsV RX0 53 RX0 yX0_findHeights wsX0_findHeights) := goodIn_app (goodIn_of _ (by decide +kernel)) ggX0_leastIntervalOfRecurrences_X0_findHeights
theorem dX0_leastIntervalOfRecurrences_0 : decode cX0_leastIntervalOfRecurrences 0 = .ok (.iconst 0, 1) := by decide +kernel
theorem dX0_leastIntervalOfRecurrences_1 : decode cX0_leastIntervalOfRecurrences 1 = .ok (.istore_n 1, 1) := by decide +kernel
theorem dX0_leastIntervalOfRecurrences_2 : decode cX0_leastIntervalOfRecurrences 2 = .ok (.sipush 128, 3) := by decide +kernel
theorem dX0_leastIntervalOfRecurrences_5 : decode cX0_leastIntervalOfRecurrences 5 = .ok (.istore_n 2, 1) := by decide +kernel
theorem dX0_leastIntervalOfRecurrences_6 : decode cX0_leastIntervalOfRecurrences 6 = .ok (.iload_n 2, 1) := by decide +kernel
theorem dX0_leastIntervalOfRecurrences_7 : decode cX0_leastIntervalOfRecurrences 7 = .ok (.ifCond .le 24, 3) := by decide +kernel
theorem dX0_leastIntervalOfRecurrences_10 : decode cX0_leastIntervalOfRecurrences 10 = .ok (.aload_n 0, 1) := by decide +kernel
theorem dX0_leastIntervalOfRecurrences_11 : decode cX0_leastIntervalOfRecurrences 11 = .ok (.iload_n 1, 1) := by decide +kernel
theorem dX0_leastIntervalOfRecurrences_12 : decode cX0_leastIntervalOfRecurrences 12 = .ok (.iload_n 2, 1) := by decide +kernel
theorem dX0_leastIntervalOfRecurrences_13 : decode cX0_leastIntervalOfRecurrences 13 = .ok (.iadd, 1) := by decide +kernel
theorem dX0_leastIntervalOfRecurrences_14 : decode cX0_leastIntervalOfRecurrences 14 = .ok (.invokevirtual 53, 3) := by decide +kernel
theorem dX0_leastIntervalOfRecurrences_17 : decode cX0_leastIntervalOfRecurrences 17 = .ok (.ifCond .ne 7, 3) := by decide +kernel
theorem dX0_leastIntervalOfRecurrences_20 : decode cX0_leastIntervalOfRecurrences 20 = .ok (.iload_n 1, 1) := by decide +kernel
theorem dX0_leastIntervalOfRecurrences_21 : decode cX0_leastIntervalOfRecurrences 21 = .ok (.iload_n 2, 1) := by decide +kernel
theorem dX0_leastIntervalOfRecurrences_22 : decode cX0_leastIntervalOfRecurrences 22 = .ok (.iadd, 1) := by decide +kernel
theorem dX0_leastIntervalOfRecurrences_23 : decode cX0_leastIntervalOfRecurrences 23 = .ok (.istore_n 1, 1) := by decide +kernel
theorem dX0_leastIntervalOfRecurrences_24 : decode cX0_leastIntervalOfRecurrences 24 = .ok (.iload_n 2, 1) := by decide +kernel
theorem dX0_leastIntervalOfRecurrences_25 : decode cX0_leastIntervalOfRecurrences 25 = .ok (.iconst 2, 1) := by decide +kernel
theorem dX0_leastIntervalOfRecurrences_26 : decode cX0_leastIntervalOfRecurrences 26 = .ok (.idiv, 1) := by decide +kernel
theorem dX0_leastIntervalOfRecurrences_27 : decode cX0_leastIntervalOfRecurrences 27 = .ok (.istore_n 2, 1) := by decide +kernel
theorem dX0_leastIntervalOfRecurrences_28 : decode cX0_leastIntervalOfRecurrences 28 = .ok (.goto (-22), 3) := by decide +kernel
theorem dX0_leastIntervalOfRecurrences_31 : decode cX0_leastIntervalOfRecurrences 31 = .ok (.iload_n 1, 1) := by decide +kernel
theorem dX0_leastIntervalOfRecurrences_32 : decode cX0_leastIntervalOfRecurrences 32 = .ok (.sipush 200, 3) := by decide +kernel
theorem dX0_leastIntervalOfRecurrences_35 : decode cX0_leastIntervalOfRecurrences 35 = .ok (.if_icmp .ge 9, 3) := by decide +kernel
theorem dX0_leastIntervalOfRecurrences_38 : decode cX0_leastIntervalOfRecurrences 38 = .ok (.iload_n 1, 1) := by decide +kernel
theorem dX0_leastIntervalOfRecurrences_39 : decode cX0_leastIntervalOfRecurrences 39 = .ok (.iconst 1, 1) := by decide +kernel
theorem dX0_leastIntervalOfRecurrences_40 : decode cX0_leastIntervalOfRecurrences 40 = .ok (.iadd, 1) := by decide +kernel
theorem dX0_leastIntervalOfRecurrences_41 : decode cX0_leastIntervalOfRecurrences 41 = .ok (.goto 4, 3) := by decide +kernel
theorem dX0_leastIntervalOfRecurrences_44 : decode cX0_leastIntervalOfRecurrences 44 = .ok (.iconst (-1), 1) := by decide +kernel
theorem dX0_leastIntervalOfRecurrences_45 : decode cX0_leastIntervalOfRecurrences 45 = .ok (.ireturn, 1) := by decide +kernel
set_option maxRecDepth 20000 in
theorem ggX0_findHeights_J7_fill_53178 : GoodIn wsX0_findHeights wsJ7_fill_53178 := goodIn_r _ [6] (by decide +kernel) (by decide +kernel)
set_option maxRecDepth 20000 in
theorem gX0_findHeights_J7_fill_53178 : GoodIn wsX0_findHeights (va_wsS RX0 57 yJ7_fill_53178 wsJ7_fill_53178) := goodIn_app (goodIn_of _ (by decide +kernel)) ggX0_findHeights_J7_fill_53178
set_option maxRecDepth 20000 in
theorem ggX0_findHeights_X0_raiseHeights : GoodIn wsX0_findHeights wsX0_raiseHeights := goodIn_r _ [11, 12, 1, 13, 14, 15, 16, 17, 18, 19, 20, 21, 22, 23, 24, 25, 26] (by decide +kernel) (by decide +kernel)
set_option maxRecDepth 20000 in
theorem gX0_findHeights_X0_raiseHeights : GoodIn wsX0_findHeights (wsV RX0 63 RX0 yX0_raiseHeights wsX0_raiseHeights) := goodIn_app (goodIn_of _ (by decide +kernel)) ggX0_findHeights_X0_raiseHeights
theorem dX0_findHeights_0 : decode cX0_findHeights 0 = .ok (.aload_n 0, 1) := by decide +kernel
theorem dX0_findHeights_1 : decode cX0_findHeights 1 = .ok (.getfield 33, 3) := by decide +kernel
theorem dX0_findHeights_4 : decode cX0_findHeights 4 = .ok (.iconst 0, 1) := by decide +kernel
theorem dX0_findHeights_5 : decode cX0_findHeights 5 = .ok (.invokestatic 57, 3) := by decide +kernel
theorem dX0_findHeights_8 : decode cX0_findHeights 8 = .ok (.iconst 0, 1) := by decide +kernel
theorem dX0_findHeights_9 : decode cX0_findHeights 9 = .ok (.istore_n 2, 1) := by decide +kernel
theorem dX0_findHeights_10 : decode cX0_findHeights 10 = .ok (.iload_n 2, 1) := by decide +kernel
theorem dX0_findHeights_11 : decode cX0_findHeights 11 = .ok (.aload_n 0, 1) := by decide +kernel
theorem dX0_findHeights_12 : decode cX0_findHeights 12 = .ok (.getfield 36, 3) := by decide +kernel
theorem dX0_findHeights_15 : decode cX0_findHeights 15 = .ok (.if_icmp .gt 19, 3) := by decide +kernel
theorem dX0_findHeights_18 : decode cX0_findHeights 18 = .ok (.aload_n 0, 1) := by decide +kernel
theorem dX0_findHeights_19 : decode cX0_findHeights 19 = .ok (.iload_n 1, 1) := by decide +kernel
theorem dX0_findHeights_20 : decode cX0_findHeights 20 = .ok (.invokevirtual 63, 3) := by decide +kernel
theorem dX0_findHeights_23 : decode cX0_findHeights 23 = .ok (.ifCond .ne 5, 3) := by decide +kernel
theorem dX0_findHeights_26 : decode cX0_findHeights 26 = .ok (.iconst 1, 1) := by decide +kernel
theorem dX0_findHeights_27 : decode cX0_findHeights 27 = .ok (.ireturn, 1) := by decide +kernel
theorem dX0_findHeights_28 : decode cX0_findHeights 28 = .ok (.iinc 2 1, 3) := by decide +kernel
theorem dX0_findHeights_31 : decode cX0_findHeights 31 = .ok (.goto (-21), 3) := by decide +kernel
theorem dX0_findHeights_34 : decode cX0_findHeights 34 = .ok (.iconst 0, 1) := by decide +kernel
theorem dX0_findHeights_35 : decode cX0_findHeights 35 = .ok (.ireturn, 1) := by decide +kernel
theorem dX0_raiseHeights_0 : decode cX0_raiseHeights 0 = .ok (.iconst 0, 1) := by decide +kernel
theorem dX0_raiseHeights_1 : decode cX0_raiseHeights 1 = .ok (.istore_n 2, 1) := by decide +kernel
theorem dX0_raiseHeights_2 : decode cX0_raiseHeights 2 = .ok (.iconst 0, 1) := by decide +kernel
theorem dX0_raiseHeights_3 : decode cX0_raiseHeights 3 = .ok (.istore_n 3, 1) := by decide +kernel
theorem dX0_raiseHeights_4 : decode cX0_raiseHeights 4 = .ok (.iload_n 3, 1) := by decide +kernel
theorem dX0_raiseHeights_5 : decode cX0_raiseHeights 5 = .ok (.aload_n 0, 1) := by decide +kernel
theorem dX0_raiseHeights_6 : decode cX0_raiseHeights 6 = .ok (.getfield 40, 3) := by decide +kernel
theorem dX0_raiseHeights_9 : decode cX0_raiseHeights 9 = .ok (.if_icmp .ge 69, 3) := by decide +kernel
theorem dX0_raiseHeights_12 : decode cX0_raiseHeights 12 = .ok (.aload_n 0, 1) := by decide +kernel
theorem dX0_raiseHeights_13 : decode cX0_raiseHeights 13 = .ok (.getfield 33, 3) := by decide +kernel
theorem dX0_raiseHeights_16 : decode cX0_raiseHeights 16 = .ok (.aload_n 0, 1) := by decide +kernel
theorem dX0_raiseHeights_17 : decode cX0_raiseHeights 17 = .ok (.getfield 24, 3) := by decide +kernel
theorem dX0_raiseHeights_20 : decode cX0_raiseHeights 20 = .ok (.iload_n 3, 1) := by decide +kernel
theorem dX0_raiseHeights_21 : decode cX0_raiseHeights 21 = .ok (.iaload, 1) := by decide +kernel
theorem dX0_raiseHeights_22 : decode cX0_raiseHeights 22 = .ok (.iaload, 1) := by decide +kernel
theorem dX0_raiseHeights_23 : decode cX0_raiseHeights 23 = .ok (.aload_n 0, 1) := by decide +kernel
theorem dX0_raiseHeights_24 : decode cX0_raiseHeights 24 = .ok (.getfield 27, 3) := by decide +kernel
theorem dX0_raiseHeights_27 : decode cX0_raiseHeights 27 = .ok (.iload_n 3, 1) := by decide +kernel
theorem dX0_raiseHeights_28 : decode cX0_raiseHeights 28 = .ok (.iaload, 1) := by decide +kernel
theorem dX0_raiseHeights_29 : decode cX0_raiseHeights 29 = .ok (.iadd, 1) := by decide +kernel
theorem dX0_raiseHeights_30 : decode cX0_raiseHeights 30 = .ok (.iload_n 1, 1) := by decide +kernel
theorem dX0_raiseHeights_31 : decode cX0_raiseHeights 31 = .ok (.aload_n 0, 1) := by decide +kernel
theorem dX0_raiseHeights_32 : decode cX0_raiseHeights 32 = .ok (.getfield 30, 3) := by decide +kernel
theorem dX0_raiseHeights_35 : decode cX0_raiseHeights 35 = .ok (.iload_n 3, 1) := by decide +kernel
theorem dX0_raiseHeights_36 : decode cX0_raiseHeights 36 = .ok (.iaload, 1) := by decide +kernel
theorem dX0_raiseHeights_37 : decode cX0_raiseHeights 37 = .ok (.imul, 1) := by decide +kernel
theorem dX0_raiseHeights_38 : decode cX0_raiseHeights 38 = .ok (.isub, 1) := by decide +kernel
theorem dX0_raiseHeights_39 : decode cX0_raiseHeights 39 = .ok (.istore 4, 2) := by decide +kernel
theorem dX0_raiseHeights_41 : decode cX0_raiseHeights 41 = .ok (.iload 4, 2) := by decide +kernel
theorem dX0_raiseHeights_43 : decode cX0_raiseHeights 43 = .ok (.aload_n 0, 1) := by decide +kernel
theorem dX0_raiseHeights_44 : decode cX0_raiseHeights 44 = .ok (.getfield 33, 3) := by decide +kernel
theorem dX0_raiseHeights_47 : decode cX0_raiseHeights 47 = .ok (.aload_n 0, 1) := by decide +kernel
theorem dX0_raiseHeights_48 : decode cX0_raiseHeights 48 = .ok (.getfield 21, 3) := by decide +kernel
theorem dX0_raiseHeights_51 : decode cX0_raiseHeights 51 = .ok (.iload_n 3, 1) := by decide +kernel
theorem dX0_raiseHeights_52 : decode cX0_raiseHeights 52 = .ok (.iaload, 1) := by decide +kernel
theorem dX0_raiseHeights_53 : decode cX0_raiseHeights 53 = .ok (.iaload, 1) := by decide +kernel
theorem dX0_raiseHeights_54 : decode cX0_raiseHeights 54 = .ok (.if_icmp .le 18, 3) := by decide +kernel
theorem dX0_raiseHeights_57 : decode cX0_raiseHeights 57 = .ok (.aload_n 0, 1) := by decide +kernel
theorem dX0_raiseHeights_58 : decode cX0_raiseHeights 58 = .ok (.getfield 33, 3) := by decide +kernel
theorem dX0_raiseHeights_61 : decode cX0_raiseHeights 61 = .ok (.aload_n 0, 1) := by decide +kernel
theorem dX0_raiseHeights_62 : decode cX0_raiseHeights 62 = .ok (.getfield 21, 3) := by decide +kernel
theorem dX0_raiseHeights_65 : decode cX0_raiseHeights 65 = .ok (.iload_n 3, 1) := by decide +kernel
theorem dX0_raiseHeights_66 : decode cX0_raiseHeights 66 = .ok (.iaload, 1) := by decide +kernel
theorem dX0_raiseHeights_67 : decode cX0_raiseHeights 67 = .ok (.iload 4, 2) := by decide +kernel
theorem dX0_raiseHeights_69 : decode cX0_raiseHeights 69 = .ok (.iastore, 1) := by decide +kernel
theorem dX0_raiseHeights_70 : decode cX0_raiseHeights 70 = .ok (.iconst 1, 1) := by decide +kernel
theorem dX0_raiseHeights_71 : decode cX0_raiseHeights 71 = .ok (.istore_n 2, 1) := by decide +kernel
theorem dX0_raiseHeights_72 : decode cX0_raiseHeights 72 = .ok (.iinc 3 1, 3) := by decide +kernel
theorem dX0_raiseHeights_75 : decode cX0_raiseHeights 75 = .ok (.goto (-71), 3) := by decide +kernel
theorem dX0_raiseHeights_78 : decode cX0_raiseHeights 78 = .ok (.iload_n 2, 1) := by decide +kernel
theorem dX0_raiseHeights_79 : decode cX0_raiseHeights 79 = .ok (.ireturn, 1) := by decide +kernel
theorem dX1_init_0 : decode cX1_init 0 = .ok (.aload_n 0, 1) := by decide +kernel
theorem dX1_init_1 : decode cX1_init 1 = .ok (.invokespecial 3, 3) := by decide +kernel
theorem dX1_init_4 : decode cX1_init 4 = .ok (.aload_n 0, 1) := by decide +kernel
theorem dX1_init_5 : decode cX1_init 5 = .ok (.bipush 14, 2) := by decide +kernel
theorem dX1_init_7 : decode cX1_init 7 = .ok (.newarray .int, 2) := by decide +kernel
theorem dX1_init_9 : decode cX1_init 9 = .ok (.putfield 9, 3) := by decide +kernel
theorem dX1_init_12 : decode cX1_init 12 = .ok (.aload_n 0, 1) := by decide +kernel
theorem dX1_init_13 : decode cX1_init 13 = .ok (.iconst 3, 1) := by decide +kernel
theorem dX1_init_14 : decode cX1_init 14 = .ok (.sipush 200, 3) := by decide +kernel
theorem dX1_init_17 : decode cX1_init 17 = .ok (.multianewarray 15 2, 4) := by decide +kernel
theorem dX1_init_21 : decode cX1_init 21 = .ok (.putfield 17, 3) := by decide +kernel
theorem dX1_init_24 : decode cX1_init 24 = .ok (.aload_n 0, 1) := by decide +kernel
theorem dX1_init_25 : decode cX1_init 25 = .ok (.bipush 14, 2) := by decide +kernel
theorem dX1_init_27 : decode cX1_init 27 = .ok (.newarray .int, 2) := by decide +kernel
theorem dX1_init_29 : decode cX1_init 29 = .ok (.putfield 20, 3) := by decide +kernel
theorem dX1_init_32 : decode cX1_init 32 = .ok (.aload_n 0, 1) := by decide +kernel
theorem dX1_init_33 : decode cX1_init 33 = .ok (.aload_n 1, 1) := by decide +kernel
theorem dX1_init_34 : decode cX1_init 34 = .ok (.putfield 23, 3) := by decide +kernel
theorem dX1_init_37 : decode cX1_init 37 = .ok (.return_, 1) := by decide +kernel
theorem dX1_drop_0 : decode cX1_drop 0 = .ok (.aload_n 0, 1) := by decide +kernel
theorem dX1_drop_1 : decode cX1_drop 1 = .ok (.iconst 0, 1) := by decide +kernel
theorem dX1_drop_2 : decode cX1_drop 2 = .ok (.putfield 27, 3) := by decide +kernel
theorem dX1_drop_5 : decode cX1_drop 5 = .ok (.return_, 1) := by decide +kernel
set_option maxRecDepth 20000 in
theorem ggX1_attempt_X0_findHeights : GoodIn wsX1_attempt wsX0_findHeights := goodIn_r _ [10, 11, 12, 13, 14, 15, 16, 17, 18, 19, 9, 20, 21, 22, 23, 24, 25, 82, 83, 84, 85, 86, 87, 88, 89, 90, 91] (by decide +kernel) (by decide +kernel)
set_option maxRecDepth 20000 in
theorem gX1_attempt_X0_findHeights : GoodIn wsX1_attempt (wsV RX1 31 RX0 yX0_findHeights wsX0_findHeights) := goodIn_app (goodIn_of _ (by decide +kernel)) ggX1_attempt_X0_findHeights
set_option maxRecDepth 20000 in
theorem ggX1_attempt_J7_fill_53178 : GoodIn wsX1_attempt wsJ7_fill_53178 := goodIn_r _ [16] (by decide +kernel) (by decide +kernel)
set_option maxRecDepth 20000 in
theorem gX1_attempt_J7_fill_53178 : GoodIn wsX1_attempt (va_wsS RX1 37 yJ7_fill_53178 wsJ7_fill_53178) := goodIn_app (goodIn_of _ (by decide +kernel)) ggX1_attempt_J7_fill_53178
set_option maxRecDepth 20000 in
theorem ggX1_attempt_X1_highestUnplaced : GoodIn wsX1_attempt wsX1_highestUnplaced := goodIn_r _ [31, 2, 5, 3, 32, 77, 78, 79, 80, 81, 82, 83, 84, 85, 86, 87, 88, 89, 90, 91] (by decide +kernel) (by decide +kernel)
set_option maxRecDepth 20000 in
theorem gX1_attempt_X1_highestUnplaced : GoodIn wsX1_attempt (wsV RX1 46 RX1 yX1_highestUnplaced wsX1_highestUnplaced) := goodIn_app (goodIn_of _ (by decide +kernel)) ggX1_attempt_X1_highestUnplaced
set_option maxRecDepth 20000 in
theorem ggX1_attempt_X1_placeAtFirst : GoodIn wsX1_attempt wsX1_placeAtFirst := goodIn_r _ [36, 1, 37, 38, 39, 40, 41, 42, 43, 30, 44, 2, 45, 46, 47, 3, 48, 49, 50, 51, 52, 53, 54, 55, 56, 57, 58, 59, 60, 61, 62, 63, 4, 64, 65, 66, 67, 68, 69, 70, 71, 72, 77, 78, 79, 80, 81, 82, 83, 84, 85, 86, 87, 88, 89, 90, 91] (by decide +kernel) (by decide +kernel)
set_option maxRecDepth 20000 in
theorem gX1_attempt_X1_placeAtFirst : GoodIn wsX1_attempt (wsV RX1 50 RX1 yX1_placeAtFirst wsX1_placeAtFirst) := goodIn_app (goodIn_of _ (by decide +kernel)) ggX1_attempt_X1_placeAtFirst
set_option maxRecDepth 20000 in
theorem ggX1_attempt_X1_drop : GoodIn wsX1_attempt wsX1_drop := goodIn_r _ [76, 1, 77, 78, 79, 80, 81] (by decide +kernel) (by decide +kernel)
set_option maxRecDepth 20000 in
theorem gX1_attempt_X1_drop : GoodIn wsX1_attempt (wsV RX1 53 RX1 yX1_drop wsX1_drop) := goodIn_app (goodIn_of _ (by decide +kernel)) ggX1_attempt_X1_drop
theorem dX1_attempt_0 : decode cX1_attempt 0 = .ok (.aload_n 0, 1) := by decide +kernel
theorem dX1_attempt_1 : decode cX1_attempt 1 = .ok (.iload_n 1, 1) := by decide +kernel
theorem dX1_attempt_2 : decode cX1_attempt 2 = .ok (.putfield 27, 3) := by decide +kernel
theorem dX1_attempt_5 : decode cX1_attempt 5 = .ok (.aload_n 0, 1) := by decide +kernel
theorem dX1_attempt_6 : decode cX1_attempt 6 = .ok (.getfield 23, 3) := by decide +kernel
theorem dX1_attempt_9 : decode cX1_attempt 9 = .ok (.iload_n 1, 1) := by decide +kernel
theorem dX1_attempt_10 : decode cX1_attempt 10 = .ok (.invokevirtual 31, 3) := by decide +kernel
theorem dX1_attempt_13 : decode cX1_attempt 13 = .ok (.pop, 1) := by decide +kernel
theorem dX1_attempt_14 : decode cX1_attempt 14 = .ok (.aload_n 0, 1) := by decide +kernel
theorem dX1_attempt_15 : decode cX1_attempt 15 = .ok (.getfield 9, 3) := by decide +kernel
theorem dX1_attempt_18 : decode cX1_attempt 18 = .ok (.iconst (-1), 1) := by decide +kernel
theorem dX1_attempt_19 : decode cX1_attempt 19 = .ok (.invokestatic 37, 3) := by decide +kernel
theorem dX1_attempt_22 : decode cX1_attempt 22 = .ok (.iconst 0, 1) := by decide +kernel
theorem dX1_attempt_23 : decode cX1_attempt 23 = .ok (.istore_n 2, 1) := by decide +kernel
theorem dX1_attempt_24 : decode cX1_attempt 24 = .ok (.iload_n 2, 1) := by decide +kernel
theorem dX1_attempt_25 : decode cX1_attempt 25 = .ok (.iconst 3, 1) := by decide +kernel
theorem dX1_attempt_26 : decode cX1_attempt 26 = .ok (.if_icmp .ge 19, 3) := by decide +kernel
theorem dX1_attempt_29 : decode cX1_attempt 29 = .ok (.aload_n 0, 1) := by decide +kernel
theorem dX1_attempt_30 : decode cX1_attempt 30 = .ok (.getfield 17, 3) := by decide +kernel
theorem dX1_attempt_33 : decode cX1_attempt 33 = .ok (.iload_n 2, 1) := by decide +kernel
theorem dX1_attempt_34 : decode cX1_attempt 34 = .ok (.aaload, 1) := by decide +kernel
theorem dX1_attempt_35 : decode cX1_attempt 35 = .ok (.iconst 0, 1) := by decide +kernel
theorem dX1_attempt_36 : decode cX1_attempt 36 = .ok (.invokestatic 37, 3) := by decide +kernel
theorem dX1_attempt_39 : decode cX1_attempt 39 = .ok (.iinc 2 1, 3) := by decide +kernel
theorem dX1_attempt_42 : decode cX1_attempt 42 = .ok (.goto (-18), 3) := by decide +kernel
theorem dX1_attempt_45 : decode cX1_attempt 45 = .ok (.iconst 0, 1) := by decide +kernel
theorem dX1_attempt_46 : decode cX1_attempt 46 = .ok (.istore_n 2, 1) := by decide +kernel
theorem dX1_attempt_47 : decode cX1_attempt 47 = .ok (.iload_n 2, 1) := by decide +kernel
theorem dX1_attempt_48 : decode cX1_attempt 48 = .ok (.aload_n 0, 1) := by decide +kernel
theorem dX1_attempt_49 : decode cX1_attempt 49 = .ok (.getfield 23, 3) := by decide +kernel
theorem dX1_attempt_52 : decode cX1_attempt 52 = .ok (.getfield 43, 3) := by decide +kernel
theorem dX1_attempt_55 : decode cX1_attempt 55 = .ok (.if_icmp .ge 33, 3) := by decide +kernel
theorem dX1_attempt_58 : decode cX1_attempt 58 = .ok (.aload_n 0, 1) := by decide +kernel
theorem dX1_attempt_59 : decode cX1_attempt 59 = .ok (.invokevirtual 46, 3) := by decide +kernel
theorem dX1_attempt_62 : decode cX1_attempt 62 = .ok (.istore_n 3, 1) := by decide +kernel
theorem dX1_attempt_63 : decode cX1_attempt 63 = .ok (.iload_n 3, 1) := by decide +kernel
theorem dX1_attempt_64 : decode cX1_attempt 64 = .ok (.iconst (-1), 1) := by decide +kernel
theorem dX1_attempt_65 : decode cX1_attempt 65 = .ok (.if_icmp .eq 11, 3) := by decide +kernel
theorem dX1_attempt_68 : decode cX1_attempt 68 = .ok (.aload_n 0, 1) := by decide +kernel
theorem dX1_attempt_69 : decode cX1_attempt 69 = .ok (.iload_n 3, 1) := by decide +kernel
theorem dX1_attempt_70 : decode cX1_attempt 70 = .ok (.invokevirtual 50, 3) := by decide +kernel
theorem dX1_attempt_73 : decode cX1_attempt 73 = .ok (.ifCond .ne 9, 3) := by decide +kernel
theorem dX1_attempt_76 : decode cX1_attempt 76 = .ok (.aload_n 0, 1) := by decide +kernel
theorem dX1_attempt_77 : decode cX1_attempt 77 = .ok (.invokevirtual 53, 3) := by decide +kernel
theorem dX1_attempt_80 : decode cX1_attempt 80 = .ok (.iconst 0, 1) := by decide +kernel
theorem dX1_attempt_81 : decode cX1_attempt 81 = .ok (.ireturn, 1) := by decide +kernel
theorem dX1_attempt_82 : decode cX1_attempt 82 = .ok (.iinc 2 1, 3) := by decide +kernel
theorem dX1_attempt_85 : decode cX1_attempt 85 = .ok (.goto (-38), 3) := by decide +kernel
theorem dX1_attempt_88 : decode cX1_attempt 88 = .ok (.iconst 1, 1) := by decide +kernel
theorem dX1_attempt_89 : decode cX1_attempt 89 = .ok (.ireturn, 1) := by decide +kernel
theorem dX1_highestUnplaced_0 : decode cX1_highestUnplaced 0 = .ok (.iconst (-1), 1) := by decide +kernel
theorem dX1_highestUnplaced_1 : decode cX1_highestUnplaced 1 = .ok (.istore_n 1, 1) := by decide +kernel
theorem dX1_highestUnplaced_2 : decode cX1_highestUnplaced 2 = .ok (.iconst 0, 1) := by decide +kernel
theorem dX1_highestUnplaced_3 : decode cX1_highestUnplaced 3 = .ok (.istore_n 2, 1) := by decide +kernel
theorem dX1_highestUnplaced_4 : decode cX1_highestUnplaced 4 = .ok (.iload_n 2, 1) := by decide +kernel
theorem dX1_highestUnplaced_5 : decode cX1_highestUnplaced 5 = .ok (.aload_n 0, 1) := by decide +kernel
theorem dX1_highestUnplaced_6 : decode cX1_highestUnplaced 6 = .ok (.getfield 23, 3) := by decide +kernel
theorem dX1_highestUnplaced_9 : decode cX1_highestUnplaced 9 = .ok (.getfield 43, 3) := by decide +kernel
theorem dX1_highestUnplaced_12 : decode cX1_highestUnplaced 12 = .ok (.if_icmp .ge 47, 3) := by decide +kernel
theorem dX1_highestUnplaced_15 : decode cX1_highestUnplaced 15 = .ok (.aload_n 0, 1) := by decide +kernel
theorem dX1_highestUnplaced_16 : decode cX1_highestUnplaced 16 = .ok (.getfield 9, 3) := by decide +kernel
theorem dX1_highestUnplaced_19 : decode cX1_highestUnplaced 19 = .ok (.iload_n 2, 1) := by decide +kernel
theorem dX1_highestUnplaced_20 : decode cX1_highestUnplaced 20 = .ok (.iaload, 1) := by decide +kernel
theorem dX1_highestUnplaced_21 : decode cX1_highestUnplaced 21 = .ok (.iconst (-1), 1) := by decide +kernel
theorem dX1_highestUnplaced_22 : decode cX1_highestUnplaced 22 = .ok (.if_icmp .ne 31, 3) := by decide +kernel
theorem dX1_highestUnplaced_25 : decode cX1_highestUnplaced 25 = .ok (.iload_n 1, 1) := by decide +kernel
theorem dX1_highestUnplaced_26 : decode cX1_highestUnplaced 26 = .ok (.iconst (-1), 1) := by decide +kernel
theorem dX1_highestUnplaced_27 : decode cX1_highestUnplaced 27 = .ok (.if_icmp .eq 24, 3) := by decide +kernel
theorem dX1_highestUnplaced_30 : decode cX1_highestUnplaced 30 = .ok (.aload_n 0, 1) := by decide +kernel
theorem dX1_highestUnplaced_31 : decode cX1_highestUnplaced 31 = .ok (.getfield 23, 3) := by decide +kernel
theorem dX1_highestUnplaced_34 : decode cX1_highestUnplaced 34 = .ok (.getfield 56, 3) := by decide +kernel
theorem dX1_highestUnplaced_37 : decode cX1_highestUnplaced 37 = .ok (.iload_n 2, 1) := by decide +kernel
theorem dX1_highestUnplaced_38 : decode cX1_highestUnplaced 38 = .ok (.iaload, 1) := by decide +kernel
theorem dX1_highestUnplaced_39 : decode cX1_highestUnplaced 39 = .ok (.aload_n 0, 1) := by decide +kernel
theorem dX1_highestUnplaced_40 : decode cX1_highestUnplaced 40 = .ok (.getfield 23, 3) := by decide +kernel
theorem dX1_highestUnplaced_43 : decode cX1_highestUnplaced 43 = .ok (.getfield 56, 3) := by decide +kernel
theorem dX1_highestUnplaced_46 : decode cX1_highestUnplaced 46 = .ok (.iload_n 1, 1) := by decide +kernel
theorem dX1_highestUnplaced_47 : decode cX1_highestUnplaced 47 = .ok (.iaload, 1) := by decide +kernel
theorem dX1_highestUnplaced_48 : decode cX1_highestUnplaced 48 = .ok (.if_icmp .le 5, 3) := by decide +kernel
theorem dX1_highestUnplaced_51 : decode cX1_highestUnplaced 51 = .ok (.iload_n 2, 1) := by decide +kernel
theorem dX1_highestUnplaced_52 : decode cX1_highestUnplaced 52 = .ok (.istore_n 1, 1) := by decide +kernel
theorem dX1_highestUnplaced_53 : decode cX1_highestUnplaced 53 = .ok (.iinc 2 1, 3) := by decide +kernel
theorem dX1_highestUnplaced_56 : decode cX1_highestUnplaced 56 = .ok (.goto (-52), 3) := by decide +kernel
theorem dX1_highestUnplaced_59 : decode cX1_highestUnplaced 59 = .ok (.iload_n 1, 1) := by decide +kernel
theorem dX1_highestUnplaced_60 : decode cX1_highestUnplaced 60 = .ok (.ireturn, 1) := by decide +kernel
set_option maxRecDepth 20000 in
theorem ggX1_placeAtFirst_X1_earliestAllowed : GoodIn wsX1_placeAtFirst wsX1_earliestAllowed := goodIn_r _ [10, 11, 12, 13, 14, 15, 16, 1, 17, 18, 19, 4, 20, 42, 43, 44, 45, 46, 47, 48, 49, 50, 51, 52, 53, 54, 55, 56] (by decide +kernel) (by decide +kernel)
set_option maxRecDepth 20000 in
theorem gX1_placeAtFirst_X1_earliestAllowed : GoodIn wsX1_placeAtFirst (wsV RX1 59 RX1 yX1_earliestAllowed wsX1_earliestAllowed) := goodIn_app (goodIn_of _ (by decide +kernel)) ggX1_placeAtFirst_X1_earliestAllowed
set_option maxRecDepth 20000 in
theorem ggX1_placeAtFirst_X1_latestAllowed : GoodIn wsX1_placeAtFirst wsX1_latestAllowed := goodIn_r _ [24, 25, 11, 12, 14, 13, 15, 16, 1, 17, 2, 3, 4, 5, 42, 43, 44, 45, 46, 47, 48, 49, 50, 51, 52, 53, 54, 55, 56] (by decide +kernel) (by decide +kernel)
set_option maxRecDepth 20000 in
theorem gX1_placeAtFirst_X1_latestAllowed : GoodIn wsX1_placeAtFirst (wsV RX1 63 RX1 yX1_latestAllowed wsX1_latestAllowed) := goodIn_app (goodIn_of _ (by decide +kernel)) ggX1_placeAtFirst_X1_latestAllowed
set_option maxRecDepth 20000 in
theorem ggX1_placeAtFirst_X1_hasUnits : GoodIn wsX1_placeAtFirst wsX1_hasUnits := goodIn_r _ [29, 11, 30, 31, 32, 1, 33, 42, 43, 44, 45, 46, 47, 48, 49, 50, 51, 52, 53, 54, 55, 56] (by decide +kernel) (by decide +kernel)
set_option maxRecDepth 20000 in
theorem gX1_placeAtFirst_X1_hasUnits : GoodIn wsX1_placeAtFirst (wsV RX1 72 RX1 yX1_hasUnits wsX1_hasUnits) := goodIn_app (goodIn_of _ (by decide +kernel)) ggX1_placeAtFirst_X1_hasUnits
set_option maxRecDepth 20000 in
theorem ggX1_placeAtFirst_X1_place : GoodIn wsX1_placeAtFirst wsX1_place := goodIn_r _ [37, 15, 38, 39, 40, 9, 41, 11, 30, 31, 32, 1, 42, 43, 44, 45, 46, 47, 48, 49, 50, 51, 52, 53, 54, 55, 56] (by decide +kernel) (by decide +kernel)
set_option maxRecDepth 20000 in
theorem gX1_placeAtFirst_X1_place : GoodIn wsX1_placeAtFirst (wsV RX1 76 RX1 yX1_place wsX1_place) := goodIn_app (goodIn_of _ (by decide +kernel)) ggX1_placeAtFirst_X1_place
theorem dX1_placeAtFirst_0 : decode cX1_placeAtFirst 0 = .ok (.aload_n 0, 1) := by decide +kernel
theorem dX1_placeAtFirst_1 : decode cX1_placeAtFirst 1 = .ok (.iload_n 1, 1) := by decide +kernel
theorem dX1_placeAtFirst_2 : decode cX1_placeAtFirst 2 = .ok (.invokevirtual 59, 3) := by decide +kernel
theorem dX1_placeAtFirst_5 : decode cX1_placeAtFirst 5 = .ok (.istore_n 2, 1) := by decide +kernel
theorem dX1_placeAtFirst_6 : decode cX1_placeAtFirst 6 = .ok (.aload_n 0, 1) := by decide +kernel
theorem dX1_placeAtFirst_7 : decode cX1_placeAtFirst 7 = .ok (.iload_n 1, 1) := by decide +kernel
theorem dX1_placeAtFirst_8 : decode cX1_placeAtFirst 8 = .ok (.invokevirtual 63, 3) := by decide +kernel
theorem dX1_placeAtFirst_11 : decode cX1_placeAtFirst 11 = .ok (.iload_n 2, 1) := by decide +kernel
theorem dX1_placeAtFirst_12 : decode cX1_placeAtFirst 12 = .ok (.aload_n 0, 1) := by decide +kernel
theorem dX1_placeAtFirst_13 : decode cX1_placeAtFirst 13 = .ok (.getfield 27, 3) := by decide +kernel
theorem dX1_placeAtFirst_16 : decode cX1_placeAtFirst 16 = .ok (.iadd, 1) := by decide +kernel
theorem dX1_placeAtFirst_17 : decode cX1_placeAtFirst 17 = .ok (.iconst 1, 1) := by decide +kernel
theorem dX1_placeAtFirst_18 : decode cX1_placeAtFirst 18 = .ok (.isub, 1) := by decide +kernel
theorem dX1_placeAtFirst_19 : decode cX1_placeAtFirst 19 = .ok (.invokestatic 66, 3) := by decide +kernel
theorem dX1_placeAtFirst_22 : decode cX1_placeAtFirst 22 = .ok (.istore_n 3, 1) := by decide +kernel
theorem dX1_placeAtFirst_23 : decode cX1_placeAtFirst 23 = .ok (.iload_n 2, 1) := by decide +kernel
theorem dX1_placeAtFirst_24 : decode cX1_placeAtFirst 24 = .ok (.istore 4, 2) := by decide +kernel
theorem dX1_placeAtFirst_26 : decode cX1_placeAtFirst 26 = .ok (.iload 4, 2) := by decide +kernel
theorem dX1_placeAtFirst_28 : decode cX1_placeAtFirst 28 = .ok (.iload_n 3, 1) := by decide +kernel
theorem dX1_placeAtFirst_29 : decode cX1_placeAtFirst 29 = .ok (.if_icmp .gt 28, 3) := by decide +kernel
theorem dX1_placeAtFirst_32 : decode cX1_placeAtFirst 32 = .ok (.aload_n 0, 1) := by decide +kernel
theorem dX1_placeAtFirst_33 : decode cX1_placeAtFirst 33 = .ok (.iload_n 1, 1) := by decide +kernel
theorem dX1_placeAtFirst_34 : decode cX1_placeAtFirst 34 = .ok (.iload 4, 2) := by decide +kernel
theorem dX1_placeAtFirst_36 : decode cX1_placeAtFirst 36 = .ok (.invokevirtual 72, 3) := by decide +kernel
theorem dX1_placeAtFirst_39 : decode cX1_placeAtFirst 39 = .ok (.ifCond .eq 12, 3) := by decide +kernel
theorem dX1_placeAtFirst_42 : decode cX1_placeAtFirst 42 = .ok (.aload_n 0, 1) := by decide +kernel
theorem dX1_placeAtFirst_43 : decode cX1_placeAtFirst 43 = .ok (.iload_n 1, 1) := by decide +kernel
theorem dX1_placeAtFirst_44 : decode cX1_placeAtFirst 44 = .ok (.iload 4, 2) := by decide +kernel
theorem dX1_placeAtFirst_46 : decode cX1_placeAtFirst 46 = .ok (.invokevirtual 76, 3) := by decide +kernel
theorem dX1_placeAtFirst_49 : decode cX1_placeAtFirst 49 = .ok (.iconst 1, 1) := by decide +kernel
theorem dX1_placeAtFirst_50 : decode cX1_placeAtFirst 50 = .ok (.ireturn, 1) := by decide +kernel
theorem dX1_placeAtFirst_51 : decode cX1_placeAtFirst 51 = .ok (.iinc 4 1, 3) := by decide +kernel
theorem dX1_placeAtFirst_54 : decode cX1_placeAtFirst 54 = .ok (.goto (-28), 3) := by decide +kernel
theorem dX1_placeAtFirst_57 : decode cX1_placeAtFirst 57 = .ok (.iconst 0, 1) := by decide +kernel
theorem dX1_placeAtFirst_58 : decode cX1_placeAtFirst 58 = .ok (.ireturn, 1) := by decide +kernel
theorem dX1_earliestAllowed_0 : decode cX1_earliestAllowed 0 = .ok (.iconst 0, 1) := by decide +kernel
theorem dX1_earliestAllowed_1 : decode cX1_earliestAllowed 1 = .ok (.istore_n 2, 1) := by decide +kernel
theorem dX1_earliestAllowed_2 : decode cX1_earliestAllowed 2 = .ok (.iconst 0, 1) := by decide +kernel
theorem dX1_earliestAllowed_3 : decode cX1_earliestAllowed 3 = .ok (.istore_n 3, 1) := by decide +kernel
theorem dX1_earliestAllowed_4 : decode cX1_earliestAllowed 4 = .ok (.iload_n 3, 1) := by decide +kernel
theorem dX1_earliestAllowed_5 : decode cX1_earliestAllowed 5 = .ok (.aload_n 0, 1) := by decide +kernel
theorem dX1_earliestAllowed_6 : decode cX1_earliestAllowed 6 = .ok (.getfield 23, 3) := by decide +kernel
theorem dX1_earliestAllowed_9 : decode cX1_earliestAllowed 9 = .ok (.getfield 80, 3) := by decide +kernel
theorem dX1_earliestAllowed_12 : decode cX1_earliestAllowed 12 = .ok (.if_icmp .ge 81, 3) := by decide +kernel
theorem dX1_earliestAllowed_15 : decode cX1_earliestAllowed 15 = .ok (.aload_n 0, 1) := by decide +kernel
theorem dX1_earliestAllowed_16 : decode cX1_earliestAllowed 16 = .ok (.getfield 23, 3) := by decide +kernel
theorem dX1_earliestAllowed_19 : decode cX1_earliestAllowed 19 = .ok (.getfield 83, 3) := by decide +kernel
theorem dX1_earliestAllowed_22 : decode cX1_earliestAllowed 22 = .ok (.iload_n 3, 1) := by decide +kernel
theorem dX1_earliestAllowed_23 : decode cX1_earliestAllowed 23 = .ok (.iaload, 1) := by decide +kernel
theorem dX1_earliestAllowed_24 : decode cX1_earliestAllowed 24 = .ok (.istore 4, 2) := by decide +kernel
theorem dX1_earliestAllowed_26 : decode cX1_earliestAllowed 26 = .ok (.aload_n 0, 1) := by decide +kernel
theorem dX1_earliestAllowed_27 : decode cX1_earliestAllowed 27 = .ok (.getfield 23, 3) := by decide +kernel
theorem dX1_earliestAllowed_30 : decode cX1_earliestAllowed 30 = .ok (.getfield 86, 3) := by decide +kernel
theorem dX1_earliestAllowed_33 : decode cX1_earliestAllowed 33 = .ok (.iload_n 3, 1) := by decide +kernel
theorem dX1_earliestAllowed_34 : decode cX1_earliestAllowed 34 = .ok (.iaload, 1) := by decide +kernel
theorem dX1_earliestAllowed_35 : decode cX1_earliestAllowed 35 = .ok (.iload_n 1, 1) := by decide +kernel
theorem dX1_earliestAllowed_36 : decode cX1_earliestAllowed 36 = .ok (.if_icmp .ne 51, 3) := by decide +kernel
theorem dX1_earliestAllowed_39 : decode cX1_earliestAllowed 39 = .ok (.aload_n 0, 1) := by decide +kernel
theorem dX1_earliestAllowed_40 : decode cX1_earliestAllowed 40 = .ok (.getfield 9, 3) := by decide +kernel
theorem dX1_earliestAllowed_43 : decode cX1_earliestAllowed 43 = .ok (.iload 4, 2) := by decide +kernel
theorem dX1_earliestAllowed_45 : decode cX1_earliestAllowed 45 = .ok (.iaload, 1) := by decide +kernel
theorem dX1_earliestAllowed_46 : decode cX1_earliestAllowed 46 = .ok (.iconst (-1), 1) := by decide +kernel
theorem dX1_earliestAllowed_47 : decode cX1_earliestAllowed 47 = .ok (.if_icmp .eq 40, 3) := by decide +kernel
theorem dX1_earliestAllowed_50 : decode cX1_earliestAllowed 50 = .ok (.iload_n 2, 1) := by decide +kernel
theorem dX1_earliestAllowed_51 : decode cX1_earliestAllowed 51 = .ok (.aload_n 0, 1) := by decide +kernel
theorem dX1_earliestAllowed_52 : decode cX1_earliestAllowed 52 = .ok (.getfield 9, 3) := by decide +kernel
theorem dX1_earliestAllowed_55 : decode cX1_earliestAllowed 55 = .ok (.iload 4, 2) := by decide +kernel
theorem dX1_earliestAllowed_57 : decode cX1_earliestAllowed 57 = .ok (.iaload, 1) := by decide +kernel
theorem dX1_earliestAllowed_58 : decode cX1_earliestAllowed 58 = .ok (.aload_n 0, 1) := by decide +kernel
theorem dX1_earliestAllowed_59 : decode cX1_earliestAllowed 59 = .ok (.getfield 23, 3) := by decide +kernel
theorem dX1_earliestAllowed_62 : decode cX1_earliestAllowed 62 = .ok (.getfield 89, 3) := by decide +kernel
theorem dX1_earliestAllowed_65 : decode cX1_earliestAllowed 65 = .ok (.iload_n 3, 1) := by decide +kernel
theorem dX1_earliestAllowed_66 : decode cX1_earliestAllowed 66 = .ok (.iaload, 1) := by decide +kernel
theorem dX1_earliestAllowed_67 : decode cX1_earliestAllowed 67 = .ok (.iadd, 1) := by decide +kernel
theorem dX1_earliestAllowed_68 : decode cX1_earliestAllowed 68 = .ok (.aload_n 0, 1) := by decide +kernel
theorem dX1_earliestAllowed_69 : decode cX1_earliestAllowed 69 = .ok (.getfield 27, 3) := by decide +kernel
theorem dX1_earliestAllowed_72 : decode cX1_earliestAllowed 72 = .ok (.aload_n 0, 1) := by decide +kernel
theorem dX1_earliestAllowed_73 : decode cX1_earliestAllowed 73 = .ok (.getfield 23, 3) := by decide +kernel
theorem dX1_earliestAllowed_76 : decode cX1_earliestAllowed 76 = .ok (.getfield 92, 3) := by decide +kernel
theorem dX1_earliestAllowed_79 : decode cX1_earliestAllowed 79 = .ok (.iload_n 3, 1) := by decide +kernel
theorem dX1_earliestAllowed_80 : decode cX1_earliestAllowed 80 = .ok (.iaload, 1) := by decide +kernel
theorem dX1_earliestAllowed_81 : decode cX1_earliestAllowed 81 = .ok (.imul, 1) := by decide +kernel
theorem dX1_earliestAllowed_82 : decode cX1_earliestAllowed 82 = .ok (.isub, 1) := by decide +kernel
theorem dX1_earliestAllowed_83 : decode cX1_earliestAllowed 83 = .ok (.invokestatic 95, 3) := by decide +kernel
theorem dX1_earliestAllowed_86 : decode cX1_earliestAllowed 86 = .ok (.istore_n 2, 1) := by decide +kernel
theorem dX1_earliestAllowed_87 : decode cX1_earliestAllowed 87 = .ok (.iinc 3 1, 3) := by decide +kernel
theorem dX1_earliestAllowed_90 : decode cX1_earliestAllowed 90 = .ok (.goto (-86), 3) := by decide +kernel
theorem dX1_earliestAllowed_93 : decode cX1_earliestAllowed 93 = .ok (.iload_n 2, 1) := by decide +kernel
theorem dX1_earliestAllowed_94 : decode cX1_earliestAllowed 94 = .ok (.ireturn, 1) := by decide +kernel
theorem dX1_latestAllowed_0 : decode cX1_latestAllowed 0 = .ok (.ldc 100, 2) := by decide +kernel
theorem dX1_latestAllowed_2 : decode cX1_latestAllowed 2 = .ok (.istore_n 2, 1) := by decide +kernel
theorem dX1_latestAllowed_3 : decode cX1_latestAllowed 3 = .ok (.iconst 0, 1) := by decide +kernel
theorem dX1_latestAllowed_4 : decode cX1_latestAllowed 4 = .ok (.istore_n 3, 1) := by decide +kernel
theorem dX1_latestAllowed_5 : decode cX1_latestAllowed 5 = .ok (.iload_n 3, 1) := by decide +kernel
theorem dX1_latestAllowed_6 : decode cX1_latestAllowed 6 = .ok (.aload_n 0, 1) := by decide +kernel
theorem dX1_latestAllowed_7 : decode cX1_latestAllowed 7 = .ok (.getfield 23, 3) := by decide +kernel
theorem dX1_latestAllowed_10 : decode cX1_latestAllowed 10 = .ok (.getfield 80, 3) := by decide +kernel
theorem dX1_latestAllowed_13 : decode cX1_latestAllowed 13 = .ok (.if_icmp .ge 81, 3) := by decide +kernel
theorem dX1_latestAllowed_16 : decode cX1_latestAllowed 16 = .ok (.aload_n 0, 1) := by decide +kernel
theorem dX1_latestAllowed_17 : decode cX1_latestAllowed 17 = .ok (.getfield 23, 3) := by decide +kernel
theorem dX1_latestAllowed_20 : decode cX1_latestAllowed 20 = .ok (.getfield 86, 3) := by decide +kernel
theorem dX1_latestAllowed_23 : decode cX1_latestAllowed 23 = .ok (.iload_n 3, 1) := by decide +kernel
theorem dX1_latestAllowed_24 : decode cX1_latestAllowed 24 = .ok (.iaload, 1) := by decide +kernel
theorem dX1_latestAllowed_25 : decode cX1_latestAllowed 25 = .ok (.istore 4, 2) := by decide +kernel
theorem dX1_latestAllowed_27 : decode cX1_latestAllowed 27 = .ok (.aload_n 0, 1) := by decide +kernel
theorem dX1_latestAllowed_28 : decode cX1_latestAllowed 28 = .ok (.getfield 23, 3) := by decide +kernel
theorem dX1_latestAllowed_31 : decode cX1_latestAllowed 31 = .ok (.getfield 83, 3) := by decide +kernel
theorem dX1_latestAllowed_34 : decode cX1_latestAllowed 34 = .ok (.iload_n 3, 1) := by decide +kernel
theorem dX1_latestAllowed_35 : decode cX1_latestAllowed 35 = .ok (.iaload, 1) := by decide +kernel
theorem dX1_latestAllowed_36 : decode cX1_latestAllowed 36 = .ok (.iload_n 1, 1) := by decide +kernel
theorem dX1_latestAllowed_37 : decode cX1_latestAllowed 37 = .ok (.if_icmp .ne 51, 3) := by decide +kernel
theorem dX1_latestAllowed_40 : decode cX1_latestAllowed 40 = .ok (.aload_n 0, 1) := by decide +kernel
theorem dX1_latestAllowed_41 : decode cX1_latestAllowed 41 = .ok (.getfield 9, 3) := by decide +kernel
theorem dX1_latestAllowed_44 : decode cX1_latestAllowed 44 = .ok (.iload 4, 2) := by decide +kernel
theorem dX1_latestAllowed_46 : decode cX1_latestAllowed 46 = .ok (.iaload, 1) := by decide +kernel
theorem dX1_latestAllowed_47 : decode cX1_latestAllowed 47 = .ok (.iconst (-1), 1) := by decide +kernel
theorem dX1_latestAllowed_48 : decode cX1_latestAllowed 48 = .ok (.if_icmp .eq 40, 3) := by decide +kernel
theorem dX1_latestAllowed_51 : decode cX1_latestAllowed 51 = .ok (.iload_n 2, 1) := by decide +kernel
theorem dX1_latestAllowed_52 : decode cX1_latestAllowed 52 = .ok (.aload_n 0, 1) := by decide +kernel
theorem dX1_latestAllowed_53 : decode cX1_latestAllowed 53 = .ok (.getfield 9, 3) := by decide +kernel
theorem dX1_latestAllowed_56 : decode cX1_latestAllowed 56 = .ok (.iload 4, 2) := by decide +kernel
theorem dX1_latestAllowed_58 : decode cX1_latestAllowed 58 = .ok (.iaload, 1) := by decide +kernel
theorem dX1_latestAllowed_59 : decode cX1_latestAllowed 59 = .ok (.aload_n 0, 1) := by decide +kernel
theorem dX1_latestAllowed_60 : decode cX1_latestAllowed 60 = .ok (.getfield 23, 3) := by decide +kernel
theorem dX1_latestAllowed_63 : decode cX1_latestAllowed 63 = .ok (.getfield 89, 3) := by decide +kernel
theorem dX1_latestAllowed_66 : decode cX1_latestAllowed 66 = .ok (.iload_n 3, 1) := by decide +kernel
theorem dX1_latestAllowed_67 : decode cX1_latestAllowed 67 = .ok (.iaload, 1) := by decide +kernel
theorem dX1_latestAllowed_68 : decode cX1_latestAllowed 68 = .ok (.isub, 1) := by decide +kernel
theorem dX1_latestAllowed_69 : decode cX1_latestAllowed 69 = .ok (.aload_n 0, 1) := by decide +kernel
theorem dX1_latestAllowed_70 : decode cX1_latestAllowed 70 = .ok (.getfield 27, 3) := by decide +kernel
theorem dX1_latestAllowed_73 : decode cX1_latestAllowed 73 = .ok (.aload_n 0, 1) := by decide +kernel
theorem dX1_latestAllowed_74 : decode cX1_latestAllowed 74 = .ok (.getfield 23, 3) := by decide +kernel
theorem dX1_latestAllowed_77 : decode cX1_latestAllowed 77 = .ok (.getfield 92, 3) := by decide +kernel
theorem dX1_latestAllowed_80 : decode cX1_latestAllowed 80 = .ok (.iload_n 3, 1) := by decide +kernel
theorem dX1_latestAllowed_81 : decode cX1_latestAllowed 81 = .ok (.iaload, 1) := by decide +kernel
theorem dX1_latestAllowed_82 : decode cX1_latestAllowed 82 = .ok (.imul, 1) := by decide +kernel
theorem dX1_latestAllowed_83 : decode cX1_latestAllowed 83 = .ok (.iadd, 1) := by decide +kernel
theorem dX1_latestAllowed_84 : decode cX1_latestAllowed 84 = .ok (.invokestatic 66, 3) := by decide +kernel
theorem dX1_latestAllowed_87 : decode cX1_latestAllowed 87 = .ok (.istore_n 2, 1) := by decide +kernel
theorem dX1_latestAllowed_88 : decode cX1_latestAllowed 88 = .ok (.iinc 3 1, 3) := by decide +kernel
theorem dX1_latestAllowed_91 : decode cX1_latestAllowed 91 = .ok (.goto (-86), 3) := by decide +kernel
theorem dX1_latestAllowed_94 : decode cX1_latestAllowed 94 = .ok (.iload_n 2, 1) := by decide +kernel
theorem dX1_latestAllowed_95 : decode cX1_latestAllowed 95 = .ok (.ireturn, 1) := by decide +kernel
theorem dX1_hasUnits_0 : decode cX1_hasUnits 0 = .ok (.aload_n 0, 1) := by decide +kernel
theorem dX1_hasUnits_1 : decode cX1_hasUnits 1 = .ok (.getfield 23, 3) := by decide +kernel
theorem dX1_hasUnits_4 : decode cX1_hasUnits 4 = .ok (.getfield 101, 3) := by decide +kernel
theorem dX1_hasUnits_7 : decode cX1_hasUnits 7 = .ok (.iload_n 1, 1) := by decide +kernel
theorem dX1_hasUnits_8 : decode cX1_hasUnits 8 = .ok (.iaload, 1) := by decide +kernel
theorem dX1_hasUnits_9 : decode cX1_hasUnits 9 = .ok (.istore_n 3, 1) := by decide +kernel
theorem dX1_hasUnits_10 : decode cX1_hasUnits 10 = .ok (.iconst 0, 1) := by decide +kernel
theorem dX1_hasUnits_11 : decode cX1_hasUnits 11 = .ok (.istore 4, 2) := by decide +kernel
theorem dX1_hasUnits_13 : decode cX1_hasUnits 13 = .ok (.iload 4, 2) := by decide +kernel
theorem dX1_hasUnits_15 : decode cX1_hasUnits 15 = .ok (.aload_n 0, 1) := by decide +kernel
theorem dX1_hasUnits_16 : decode cX1_hasUnits 16 = .ok (.getfield 23, 3) := by decide +kernel
theorem dX1_hasUnits_19 : decode cX1_hasUnits 19 = .ok (.getfield 104, 3) := by decide +kernel
theorem dX1_hasUnits_22 : decode cX1_hasUnits 22 = .ok (.iload_n 1, 1) := by decide +kernel
theorem dX1_hasUnits_23 : decode cX1_hasUnits 23 = .ok (.iaload, 1) := by decide +kernel
theorem dX1_hasUnits_24 : decode cX1_hasUnits 24 = .ok (.if_icmp .ge 51, 3) := by decide +kernel
theorem dX1_hasUnits_27 : decode cX1_hasUnits 27 = .ok (.aload_n 0, 1) := by decide +kernel
theorem dX1_hasUnits_28 : decode cX1_hasUnits 28 = .ok (.getfield 17, 3) := by decide +kernel
theorem dX1_hasUnits_31 : decode cX1_hasUnits 31 = .ok (.iload_n 3, 1) := by decide +kernel
theorem dX1_hasUnits_32 : decode cX1_hasUnits 32 = .ok (.aaload, 1) := by decide +kernel
theorem dX1_hasUnits_33 : decode cX1_hasUnits 33 = .ok (.iload_n 2, 1) := by decide +kernel
theorem dX1_hasUnits_34 : decode cX1_hasUnits 34 = .ok (.iload 4, 2) := by decide +kernel
theorem dX1_hasUnits_36 : decode cX1_hasUnits 36 = .ok (.iadd, 1) := by decide +kernel
theorem dX1_hasUnits_37 : decode cX1_hasUnits 37 = .ok (.aload_n 0, 1) := by decide +kernel
theorem dX1_hasUnits_38 : decode cX1_hasUnits 38 = .ok (.getfield 27, 3) := by decide +kernel
theorem dX1_hasUnits_41 : decode cX1_hasUnits 41 = .ok (.irem, 1) := by decide +kernel
theorem dX1_hasUnits_42 : decode cX1_hasUnits 42 = .ok (.iaload, 1) := by decide +kernel
theorem dX1_hasUnits_43 : decode cX1_hasUnits 43 = .ok (.istore 5, 2) := by decide +kernel
theorem dX1_hasUnits_45 : decode cX1_hasUnits 45 = .ok (.iload 5, 2) := by decide +kernel
theorem dX1_hasUnits_47 : decode cX1_hasUnits 47 = .ok (.iload 4, 2) := by decide +kernel
theorem dX1_hasUnits_49 : decode cX1_hasUnits 49 = .ok (.aload_n 0, 1) := by decide +kernel
theorem dX1_hasUnits_50 : decode cX1_hasUnits 50 = .ok (.getfield 27, 3) := by decide +kernel
theorem dX1_hasUnits_53 : decode cX1_hasUnits 53 = .ok (.idiv, 1) := by decide +kernel
theorem dX1_hasUnits_54 : decode cX1_hasUnits 54 = .ok (.iadd, 1) := by decide +kernel
theorem dX1_hasUnits_55 : decode cX1_hasUnits 55 = .ok (.aload_n 0, 1) := by decide +kernel
theorem dX1_hasUnits_56 : decode cX1_hasUnits 56 = .ok (.getfield 23, 3) := by decide +kernel
theorem dX1_hasUnits_59 : decode cX1_hasUnits 59 = .ok (.getfield 107, 3) := by decide +kernel
theorem dX1_hasUnits_62 : decode cX1_hasUnits 62 = .ok (.iload_n 3, 1) := by decide +kernel
theorem dX1_hasUnits_63 : decode cX1_hasUnits 63 = .ok (.iaload, 1) := by decide +kernel
theorem dX1_hasUnits_64 : decode cX1_hasUnits 64 = .ok (.if_icmp .lt 5, 3) := by decide +kernel
theorem dX1_hasUnits_67 : decode cX1_hasUnits 67 = .ok (.iconst 0, 1) := by decide +kernel
theorem dX1_hasUnits_68 : decode cX1_hasUnits 68 = .ok (.ireturn, 1) := by decide +kernel
theorem dX1_hasUnits_69 : decode cX1_hasUnits 69 = .ok (.iinc 4 1, 3) := by decide +kernel
theorem dX1_hasUnits_72 : decode cX1_hasUnits 72 = .ok (.goto (-59), 3) := by decide +kernel
theorem dX1_hasUnits_75 : decode cX1_hasUnits 75 = .ok (.iconst 1, 1) := by decide +kernel
theorem dX1_hasUnits_76 : decode cX1_hasUnits 76 = .ok (.ireturn, 1) := by decide +kernel
set_option maxRecDepth 20000 in
theorem ggX1_place_X1_changeTaken : GoodIn wsX1_place wsX1_changeTaken := goodIn_r _ [6, 7, 8, 9, 10, 11, 12, 13, 14, 15, 16, 17, 18, 19, 20, 21, 22, 23, 24, 25, 26] (by decide +kernel) (by decide +kernel)
set_option maxRecDepth 20000 in
theorem gX1_place_X1_changeTaken : GoodIn wsX1_place (wsV RX1 110 RX1 yX1_changeTaken wsX1_changeTaken) := goodIn_app (goodIn_of _ (by decide +kernel)) ggX1_place_X1_changeTaken
theorem dX1_place_0 : decode cX1_place 0 = .ok (.aload_n 0, 1) := by decide +kernel
theorem dX1_place_1 : decode cX1_place 1 = .ok (.getfield 9, 3) := by decide +kernel
theorem dX1_place_4 : decode cX1_place 4 = .ok (.iload_n 1, 1) := by decide +kernel
theorem dX1_place_5 : decode cX1_place 5 = .ok (.iload_n 2, 1) := by decide +kernel
theorem dX1_place_6 : decode cX1_place 6 = .ok (.iastore, 1) := by decide +kernel
theorem dX1_place_7 : decode cX1_place 7 = .ok (.aload_n 0, 1) := by decide +kernel
theorem dX1_place_8 : decode cX1_place 8 = .ok (.iload_n 1, 1) := by decide +kernel
theorem dX1_place_9 : decode cX1_place 9 = .ok (.iload_n 2, 1) := by decide +kernel
theorem dX1_place_10 : decode cX1_place 10 = .ok (.iconst 1, 1) := by decide +kernel
theorem dX1_place_11 : decode cX1_place 11 = .ok (.invokevirtual 110, 3) := by decide +kernel
theorem dX1_place_14 : decode cX1_place 14 = .ok (.return_, 1) := by decide +kernel
set_option maxRecDepth 20000 in
theorem ggX1_lift_X1_changeTaken : GoodIn wsX1_lift wsX1_changeTaken := goodIn_r _ [6, 7, 8, 9, 10, 11, 12, 13, 14, 15, 16, 17, 18, 19, 20, 21, 22, 23, 24, 25, 26] (by decide +kernel) (by decide +kernel)
set_option maxRecDepth 20000 in
theorem gX1_lift_X1_changeTaken : GoodIn wsX1_lift (wsV RX1 110 RX1 yX1_changeTaken wsX1_changeTaken) := goodIn_app (goodIn_of _ (by decide +kernel)) ggX1_lift_X1_changeTaken
theorem dX1_lift_0 : decode cX1_lift 0 = .ok (.aload_n 0, 1) := by decide +kernel
theorem dX1_lift_1 : decode cX1_lift 1 = .ok (.iload_n 1, 1) := by decide +kernel
theorem dX1_lift_2 : decode cX1_lift 2 = .ok (.aload_n 0, 1) := by decide +kernel
theorem dX1_lift_3 : decode cX1_lift 3 = .ok (.getfield 9, 3) := by decide +kernel
theorem dX1_lift_6 : decode cX1_lift 6 = .ok (.iload_n 1, 1) := by decide +kernel
theorem dX1_lift_7 : decode cX1_lift 7 = .ok (.iaload, 1) := by decide +kernel
theorem dX1_lift_8 : decode cX1_lift 8 = .ok (.iconst (-1), 1) := by decide +kernel
theorem dX1_lift_9 : decode cX1_lift 9 = .ok (.invokevirtual 110, 3) := by decide +kernel
theorem dX1_lift_12 : decode cX1_lift 12 = .ok (.aload_n 0, 1) := by decide +kernel
theorem dX1_lift_13 : decode cX1_lift 13 = .ok (.getfield 9, 3) := by decide +kernel
theorem dX1_lift_16 : decode cX1_lift 16 = .ok (.iload_n 1, 1) := by decide +kernel
theorem dX1_lift_17 : decode cX1_lift 17 = .ok (.iconst (-1), 1) := by decide +kernel
theorem dX1_lift_18 : decode cX1_lift 18 = .ok (.iastore, 1) := by decide +kernel
theorem dX1_lift_19 : decode cX1_lift 19 = .ok (.return_, 1) := by decide +kernel
theorem dX1_changeTaken_0 : decode cX1_changeTaken 0 = .ok (.aload_n 0, 1) := by decide +kernel
theorem dX1_changeTaken_1 : decode cX1_changeTaken 1 = .ok (.getfield 23, 3) := by decide +kernel
theorem dX1_changeTaken_4 : decode cX1_changeTaken 4 = .ok (.getfield 101, 3) := by decide +kernel
theorem dX1_changeTaken_7 : decode cX1_changeTaken 7 = .ok (.iload_n 1, 1) := by decide +kernel
theorem dX1_changeTaken_8 : decode cX1_changeTaken 8 = .ok (.iaload, 1) := by decide +kernel
theorem dX1_changeTaken_9 : decode cX1_changeTaken 9 = .ok (.istore 4, 2) := by decide +kernel
theorem dX1_changeTaken_11 : decode cX1_changeTaken 11 = .ok (.iconst 0, 1) := by decide +kernel
theorem dX1_changeTaken_12 : decode cX1_changeTaken 12 = .ok (.istore 5, 2) := by decide +kernel
theorem dX1_changeTaken_14 : decode cX1_changeTaken 14 = .ok (.iload 5, 2) := by decide +kernel
theorem dX1_changeTaken_16 : decode cX1_changeTaken 16 = .ok (.aload_n 0, 1) := by decide +kernel
theorem dX1_changeTaken_17 : decode cX1_changeTaken 17 = .ok (.getfield 23, 3) := by decide +kernel
theorem dX1_changeTaken_20 : decode cX1_changeTaken 20 = .ok (.getfield 104, 3) := by decide +kernel
theorem dX1_changeTaken_23 : decode cX1_changeTaken 23 = .ok (.iload_n 1, 1) := by decide +kernel
theorem dX1_changeTaken_24 : decode cX1_changeTaken 24 = .ok (.iaload, 1) := by decide +kernel
theorem dX1_changeTaken_25 : decode cX1_changeTaken 25 = .ok (.if_icmp .ge 30, 3) := by decide +kernel
theorem dX1_changeTaken_28 : decode cX1_changeTaken 28 = .ok (.aload_n 0, 1) := by decide +kernel
theorem dX1_changeTaken_29 : decode cX1_changeTaken 29 = .ok (.getfield 17, 3) := by decide +kernel
theorem dX1_changeTaken_32 : decode cX1_changeTaken 32 = .ok (.iload 4, 2) := by decide +kernel
theorem dX1_changeTaken_34 : decode cX1_changeTaken 34 = .ok (.aaload, 1) := by decide +kernel
theorem dX1_changeTaken_35 : decode cX1_changeTaken 35 = .ok (.iload_n 2, 1) := by decide +kernel
theorem dX1_changeTaken_36 : decode cX1_changeTaken 36 = .ok (.iload 5, 2) := by decide +kernel
theorem dX1_changeTaken_38 : decode cX1_changeTaken 38 = .ok (.iadd, 1) := by decide +kernel
theorem dX1_changeTaken_39 : decode cX1_changeTaken 39 = .ok (.aload_n 0, 1) := by decide +kernel
theorem dX1_changeTaken_40 : decode cX1_changeTaken 40 = .ok (.getfield 27, 3) := by decide +kernel
theorem dX1_changeTaken_43 : decode cX1_changeTaken 43 = .ok (.irem, 1) := by decide +kernel
theorem dX1_changeTaken_44 : decode cX1_changeTaken 44 = .ok (.dup2, 1) := by decide +kernel
theorem dX1_changeTaken_45 : decode cX1_changeTaken 45 = .ok (.iaload, 1) := by decide +kernel
theorem dX1_changeTaken_46 : decode cX1_changeTaken 46 = .ok (.iload_n 3, 1) := by decide +kernel
theorem dX1_changeTaken_47 : decode cX1_changeTaken 47 = .ok (.iadd, 1) := by decide +kernel
theorem dX1_changeTaken_48 : decode cX1_changeTaken 48 = .ok (.iastore, 1) := by decide +kernel
theorem dX1_changeTaken_49 : decode cX1_changeTaken 49 = .ok (.iinc 5 1, 3) := by decide +kernel
theorem dX1_changeTaken_52 : decode cX1_changeTaken 52 = .ok (.goto (-38), 3) := by decide +kernel
theorem dX1_changeTaken_55 : decode cX1_changeTaken 55 = .ok (.return_, 1) := by decide +kernel
set_option maxRecDepth 20000 in
theorem ggX1_replace_X1_lift : GoodIn wsX1_replace wsX1_lift := goodIn_r _ [6, 1, 7, 8, 9, 5, 10, 11, 12, 13, 14, 15, 46, 47, 48, 49, 50, 51, 52, 53, 54, 55, 56, 57, 58, 59, 60] (by decide +kernel) (by decide +kernel)
set_option maxRecDepth 20000 in
theorem gX1_replace_X1_lift : GoodIn wsX1_replace (wsV RX1 114 RX1 yX1_lift wsX1_lift) := goodIn_app (goodIn_of _ (by decide +kernel)) ggX1_replace_X1_lift
set_option maxRecDepth 20000 in
theorem ggX1_replace_X1_earliestAllowed : GoodIn wsX1_replace wsX1_earliestAllowed := goodIn_r _ [19, 11, 20, 21, 22, 1, 23, 15, 24, 25, 26, 27, 28, 46, 47, 48, 49, 50, 51, 52, 53, 54, 55, 56, 57, 58, 59, 60] (by decide +kernel) (by decide +kernel)
set_option maxRecDepth 20000 in
theorem gX1_replace_X1_earliestAllowed : GoodIn wsX1_replace (wsV RX1 59 RX1 yX1_earliestAllowed wsX1_earliestAllowed) := goodIn_app (goodIn_of _ (by decide +kernel)) ggX1_replace_X1_earliestAllowed
set_option maxRecDepth 20000 in
theorem ggX1_replace_X1_latestAllowed : GoodIn wsX1_replace wsX1_latestAllowed := goodIn_r _ [32, 33, 11, 20, 22, 21, 1, 23, 15, 24, 34, 35, 27, 36, 46, 47, 48, 49, 50, 51, 52, 53, 54, 55, 56, 57, 58, 59, 60] (by decide +kernel) (by decide +kernel)
set_option maxRecDepth 20000 in
theorem gX1_replace_X1_latestAllowed : GoodIn wsX1_replace (wsV RX1 63 RX1 yX1_latestAllowed wsX1_latestAllowed) := goodIn_app (goodIn_of _ (by decide +kernel)) ggX1_replace_X1_latestAllowed
set_option maxRecDepth 20000 in
theorem ggX1_replace_X1_hasUnits : GoodIn wsX1_replace wsX1_hasUnits := goodIn_r _ [40, 11, 12, 13, 14, 15, 41, 46, 47, 48, 49, 50, 51, 52, 53, 54, 55, 56, 57, 58, 59, 60] (by decide +kernel) (by decide +kernel)
set_option maxRecDepth 20000 in
theorem gX1_replace_X1_hasUnits : GoodIn wsX1_replace (wsV RX1 72 RX1 yX1_hasUnits wsX1_hasUnits) := goodIn_app (goodIn_of _ (by decide +kernel)) ggX1_replace_X1_hasUnits
set_option maxRecDepth 20000 in
theorem ggX1_replace_X1_place : GoodIn wsX1_replace wsX1_place := goodIn_r _ [45, 1, 7, 8, 9, 5, 10, 11, 12, 13, 14, 15, 46, 47, 48, 49, 50, 51, 52, 53, 54, 55, 56, 57, 58, 59, 60] (by decide +kernel) (by decide +kernel)
set_option maxRecDepth 20000 in
theorem gX1_replace_X1_place : GoodIn wsX1_replace (wsV RX1 76 RX1 yX1_place wsX1_place) := goodIn_app (goodIn_of _ (by decide +kernel)) ggX1_replace_X1_place
theorem dX1_replace_0 : decode cX1_replace 0 = .ok (.aload_n 0, 1) := by decide +kernel
theorem dX1_replace_1 : decode cX1_replace 1 = .ok (.getfield 9, 3) := by decide +kernel
theorem dX1_replace_4 : decode cX1_replace 4 = .ok (.iload_n 1, 1) := by decide +kernel
theorem dX1_replace_5 : decode cX1_replace 5 = .ok (.iaload, 1) := by decide +kernel
theorem dX1_replace_6 : decode cX1_replace 6 = .ok (.istore_n 3, 1) := by decide +kernel
theorem dX1_replace_7 : decode cX1_replace 7 = .ok (.aload_n 0, 1) := by decide +kernel
theorem dX1_replace_8 : decode cX1_replace 8 = .ok (.iload_n 1, 1) := by decide +kernel
theorem dX1_replace_9 : decode cX1_replace 9 = .ok (.invokevirtual 114, 3) := by decide +kernel
theorem dX1_replace_12 : decode cX1_replace 12 = .ok (.iload_n 2, 1) := by decide +kernel
theorem dX1_replace_13 : decode cX1_replace 13 = .ok (.aload_n 0, 1) := by decide +kernel
theorem dX1_replace_14 : decode cX1_replace 14 = .ok (.iload_n 1, 1) := by decide +kernel
theorem dX1_replace_15 : decode cX1_replace 15 = .ok (.invokevirtual 59, 3) := by decide +kernel
theorem dX1_replace_18 : decode cX1_replace 18 = .ok (.if_icmp .lt 25, 3) := by decide +kernel
theorem dX1_replace_21 : decode cX1_replace 21 = .ok (.iload_n 2, 1) := by decide +kernel
theorem dX1_replace_22 : decode cX1_replace 22 = .ok (.aload_n 0, 1) := by decide +kernel
theorem dX1_replace_23 : decode cX1_replace 23 = .ok (.iload_n 1, 1) := by decide +kernel
theorem dX1_replace_24 : decode cX1_replace 24 = .ok (.invokevirtual 63, 3) := by decide +kernel
theorem dX1_replace_27 : decode cX1_replace 27 = .ok (.if_icmp .gt 16, 3) := by decide +kernel
theorem dX1_replace_30 : decode cX1_replace 30 = .ok (.aload_n 0, 1) := by decide +kernel
theorem dX1_replace_31 : decode cX1_replace 31 = .ok (.iload_n 1, 1) := by decide +kernel
theorem dX1_replace_32 : decode cX1_replace 32 = .ok (.iload_n 2, 1) := by decide +kernel
theorem dX1_replace_33 : decode cX1_replace 33 = .ok (.invokevirtual 72, 3) := by decide +kernel
theorem dX1_replace_36 : decode cX1_replace 36 = .ok (.ifCond .eq 7, 3) := by decide +kernel
theorem dX1_replace_39 : decode cX1_replace 39 = .ok (.iconst 1, 1) := by decide +kernel
theorem dX1_replace_40 : decode cX1_replace 40 = .ok (.goto 4, 3) := by decide +kernel
theorem dX1_replace_43 : decode cX1_replace 43 = .ok (.iconst 0, 1) := by decide +kernel
theorem dX1_replace_44 : decode cX1_replace 44 = .ok (.istore 4, 2) := by decide +kernel
theorem dX1_replace_46 : decode cX1_replace 46 = .ok (.aload_n 0, 1) := by decide +kernel
theorem dX1_replace_47 : decode cX1_replace 47 = .ok (.iload_n 1, 1) := by decide +kernel
theorem dX1_replace_48 : decode cX1_replace 48 = .ok (.iload 4, 2) := by decide +kernel
theorem dX1_replace_50 : decode cX1_replace 50 = .ok (.ifCond .eq 7, 3) := by decide +kernel
theorem dX1_replace_53 : decode cX1_replace 53 = .ok (.iload_n 2, 1) := by decide +kernel
theorem dX1_replace_54 : decode cX1_replace 54 = .ok (.goto 4, 3) := by decide +kernel
theorem dX1_replace_57 : decode cX1_replace 57 = .ok (.iload_n 3, 1) := by decide +kernel
theorem dX1_replace_58 : decode cX1_replace 58 = .ok (.invokevirtual 76, 3) := by decide +kernel
theorem dX1_replace_61 : decode cX1_replace 61 = .ok (.iload 4, 2) := by decide +kernel
theorem dX1_replace_63 : decode cX1_replace 63 = .ok (.ireturn, 1) := by decide +kernel
set_option maxRecDepth 20000 in
theorem ggX1_countPlaces_X1_lift : GoodIn wsX1_countPlaces wsX1_lift := goodIn_r _ [10, 1, 11, 12, 13, 9, 14, 15, 16, 17, 18, 19, 46, 47, 48, 49, 50, 51, 52, 53, 54, 55, 56, 57, 58, 59, 60] (by decide +kernel) (by decide +kernel)
set_option maxRecDepth 20000 in
theorem gX1_countPlaces_X1_lift : GoodIn wsX1_countPlaces (wsV RX1 114 RX1 yX1_lift wsX1_lift) := goodIn_app (goodIn_of _ (by decide +kernel)) ggX1_countPlaces_X1_lift
set_option maxRecDepth 20000 in
theorem ggX1_countPlaces_X1_latestAllowed : GoodIn wsX1_countPlaces wsX1_latestAllowed := goodIn_r _ [23, 24, 15, 25, 26, 27, 1, 28, 19, 29, 2, 3, 4, 5, 46, 47, 48, 49, 50, 51, 52, 53, 54, 55, 56, 57, 58, 59, 60] (by decide +kernel) (by decide +kernel)
set_option maxRecDepth 20000 in
theorem gX1_countPlaces_X1_latestAllowed : GoodIn wsX1_countPlaces (wsV RX1 63 RX1 yX1_latestAllowed wsX1_latestAllowed) := goodIn_app (goodIn_of _ (by decide +kernel)) ggX1_countPlaces_X1_latestAllowed
set_option maxRecDepth 20000 in
theorem ggX1_countPlaces_X1_earliestAllowed : GoodIn wsX1_countPlaces wsX1_earliestAllowed := goodIn_r _ [33, 15, 25, 27, 26, 1, 28, 19, 29, 34, 35, 4, 36, 46, 47, 48, 49, 50, 51, 52, 53, 54, 55, 56, 57, 58, 59, 60] (by decide +kernel) (by decide +kernel)
set_option maxRecDepth 20000 in
theorem gX1_countPlaces_X1_earliestAllowed : GoodIn wsX1_countPlaces (wsV RX1 59 RX1 yX1_earliestAllowed wsX1_earliestAllowed) := goodIn_app (goodIn_of _ (by decide +kernel)) ggX1_countPlaces_X1_earliestAllowed
set_option maxRecDepth 20000 in
theorem ggX1_countPlaces_X1_hasUnits : GoodIn wsX1_countPlaces wsX1_hasUnits := goodIn_r _ [40, 15, 16, 17, 18, 19, 41, 46, 47, 48, 49, 50, 51, 52, 53, 54, 55, 56, 57, 58, 59, 60] (by decide +kernel) (by decide +kernel)
set_option maxRecDepth 20000 in
theorem gX1_countPlaces_X1_hasUnits : GoodIn wsX1_countPlaces (wsV RX1 72 RX1 yX1_hasUnits wsX1_hasUnits) := goodIn_app (goodIn_of _ (by decide +kernel)) ggX1_countPlaces_X1_hasUnits
set_option maxRecDepth 20000 in
theorem ggX1_countPlaces_X1_place : GoodIn wsX1_countPlaces wsX1_place := goodIn_r _ [45, 1, 11, 12, 13, 9, 14, 15, 16, 17, 18, 19, 46, 47, 48, 49, 50, 51, 52, 53, 54, 55, 56, 57, 58, 59, 60] (by decide +kernel) (by decide +kernel)
set_option maxRecDepth 20000 in
theorem gX1_countPlaces_X1_place : GoodIn wsX1_countPlaces (wsV RX1 76 RX1 yX1_place wsX1_place) := goodIn_app (goodIn_of _ (by decide +kernel)) ggX1_countPlaces_X1_place
theorem dX1_countPlaces_0 : decode cX1_countPlaces 0 = .ok (.aload_n 0, 1) := by decide +kernel
theorem dX1_countPlaces_1 : decode cX1_countPlaces 1 = .ok (.getfield 9, 3) := by decide +kernel
theorem dX1_countPlaces_4 : decode cX1_countPlaces 4 = .ok (.iload_n 1, 1) := by decide +kernel
theorem dX1_countPlaces_5 : decode cX1_countPlaces 5 = .ok (.iaload, 1) := by decide +kernel
theorem dX1_countPlaces_6 : decode cX1_countPlaces 6 = .ok (.istore_n 2, 1) := by decide +kernel
theorem dX1_countPlaces_7 : decode cX1_countPlaces 7 = .ok (.aload_n 0, 1) := by decide +kernel
theorem dX1_countPlaces_8 : decode cX1_countPlaces 8 = .ok (.iload_n 1, 1) := by decide +kernel
theorem dX1_countPlaces_9 : decode cX1_countPlaces 9 = .ok (.invokevirtual 114, 3) := by decide +kernel
theorem dX1_countPlaces_12 : decode cX1_countPlaces 12 = .ok (.aload_n 0, 1) := by decide +kernel
theorem dX1_countPlaces_13 : decode cX1_countPlaces 13 = .ok (.iload_n 1, 1) := by decide +kernel
theorem dX1_countPlaces_14 : decode cX1_countPlaces 14 = .ok (.invokevirtual 63, 3) := by decide +kernel
theorem dX1_countPlaces_17 : decode cX1_countPlaces 17 = .ok (.sipush 1000, 3) := by decide +kernel
theorem dX1_countPlaces_20 : decode cX1_countPlaces 20 = .ok (.invokestatic 66, 3) := by decide +kernel
theorem dX1_countPlaces_23 : decode cX1_countPlaces 23 = .ok (.istore_n 3, 1) := by decide +kernel
theorem dX1_countPlaces_24 : decode cX1_countPlaces 24 = .ok (.iconst 0, 1) := by decide +kernel
theorem dX1_countPlaces_25 : decode cX1_countPlaces 25 = .ok (.istore 4, 2) := by decide +kernel
theorem dX1_countPlaces_27 : decode cX1_countPlaces 27 = .ok (.aload_n 0, 1) := by decide +kernel
theorem dX1_countPlaces_28 : decode cX1_countPlaces 28 = .ok (.iload_n 1, 1) := by decide +kernel
theorem dX1_countPlaces_29 : decode cX1_countPlaces 29 = .ok (.invokevirtual 59, 3) := by decide +kernel
theorem dX1_countPlaces_32 : decode cX1_countPlaces 32 = .ok (.istore 5, 2) := by decide +kernel
theorem dX1_countPlaces_34 : decode cX1_countPlaces 34 = .ok (.iload 5, 2) := by decide +kernel
theorem dX1_countPlaces_36 : decode cX1_countPlaces 36 = .ok (.iload_n 3, 1) := by decide +kernel
theorem dX1_countPlaces_37 : decode cX1_countPlaces 37 = .ok (.if_icmp .gt 22, 3) := by decide +kernel
theorem dX1_countPlaces_40 : decode cX1_countPlaces 40 = .ok (.aload_n 0, 1) := by decide +kernel
theorem dX1_countPlaces_41 : decode cX1_countPlaces 41 = .ok (.iload_n 1, 1) := by decide +kernel
theorem dX1_countPlaces_42 : decode cX1_countPlaces 42 = .ok (.iload 5, 2) := by decide +kernel
theorem dX1_countPlaces_44 : decode cX1_countPlaces 44 = .ok (.invokevirtual 72, 3) := by decide +kernel
theorem dX1_countPlaces_47 : decode cX1_countPlaces 47 = .ok (.ifCond .eq 6, 3) := by decide +kernel
theorem dX1_countPlaces_50 : decode cX1_countPlaces 50 = .ok (.iinc 4 1, 3) := by decide +kernel
theorem dX1_countPlaces_53 : decode cX1_countPlaces 53 = .ok (.iinc 5 1, 3) := by decide +kernel
theorem dX1_countPlaces_56 : decode cX1_countPlaces 56 = .ok (.goto (-22), 3) := by decide +kernel
theorem dX1_countPlaces_59 : decode cX1_countPlaces 59 = .ok (.aload_n 0, 1) := by decide +kernel
theorem dX1_countPlaces_60 : decode cX1_countPlaces 60 = .ok (.iload_n 1, 1) := by decide +kernel
theorem dX1_countPlaces_61 : decode cX1_countPlaces 61 = .ok (.iload_n 2, 1) := by decide +kernel
theorem dX1_countPlaces_62 : decode cX1_countPlaces 62 = .ok (.invokevirtual 76, 3) := by decide +kernel
theorem dX1_countPlaces_65 : decode cX1_countPlaces 65 = .ok (.iload 4, 2) := by decide +kernel
theorem dX1_countPlaces_67 : decode cX1_countPlaces 67 = .ok (.ireturn, 1) := by decide +kernel
theorem dX1_greatestTime_0 : decode cX1_greatestTime 0 = .ok (.iconst 0, 1) := by decide +kernel
theorem dX1_greatestTime_1 : decode cX1_greatestTime 1 = .ok (.istore_n 1, 1) := by decide +kernel
theorem dX1_greatestTime_2 : decode cX1_greatestTime 2 = .ok (.iconst 0, 1) := by decide +kernel
theorem dX1_greatestTime_3 : decode cX1_greatestTime 3 = .ok (.istore_n 2, 1) := by decide +kernel
theorem dX1_greatestTime_4 : decode cX1_greatestTime 4 = .ok (.iload_n 2, 1) := by decide +kernel
theorem dX1_greatestTime_5 : decode cX1_greatestTime 5 = .ok (.aload_n 0, 1) := by decide +kernel
theorem dX1_greatestTime_6 : decode cX1_greatestTime 6 = .ok (.getfield 23, 3) := by decide +kernel
theorem dX1_greatestTime_9 : decode cX1_greatestTime 9 = .ok (.getfield 43, 3) := by decide +kernel
theorem dX1_greatestTime_12 : decode cX1_greatestTime 12 = .ok (.if_icmp .ge 20, 3) := by decide +kernel
theorem dX1_greatestTime_15 : decode cX1_greatestTime 15 = .ok (.iload_n 1, 1) := by decide +kernel
theorem dX1_greatestTime_16 : decode cX1_greatestTime 16 = .ok (.aload_n 0, 1) := by decide +kernel
theorem dX1_greatestTime_17 : decode cX1_greatestTime 17 = .ok (.getfield 9, 3) := by decide +kernel
theorem dX1_greatestTime_20 : decode cX1_greatestTime 20 = .ok (.iload_n 2, 1) := by decide +kernel
theorem dX1_greatestTime_21 : decode cX1_greatestTime 21 = .ok (.iaload, 1) := by decide +kernel
theorem dX1_greatestTime_22 : decode cX1_greatestTime 22 = .ok (.invokestatic 95, 3) := by decide +kernel
theorem dX1_greatestTime_25 : decode cX1_greatestTime 25 = .ok (.istore_n 1, 1) := by decide +kernel
theorem dX1_greatestTime_26 : decode cX1_greatestTime 26 = .ok (.iinc 2 1, 3) := by decide +kernel
theorem dX1_greatestTime_29 : decode cX1_greatestTime 29 = .ok (.goto (-25), 3) := by decide +kernel
theorem dX1_greatestTime_32 : decode cX1_greatestTime 32 = .ok (.iload_n 1, 1) := by decide +kernel
theorem dX1_greatestTime_33 : decode cX1_greatestTime 33 = .ok (.ireturn, 1) := by decide +kernel
set_option maxRecDepth 20000 in
theorem ggX1_countStages_X1_greatestTime : GoodIn wsX1_countStages wsX1_greatestTime := goodIn_r _ [8, 1, 2, 9, 10, 11, 12, 13, 14, 15, 16, 17, 18, 19, 20, 21, 22, 23, 24, 25, 26, 27, 28] (by decide +kernel) (by decide +kernel)
set_option maxRecDepth 20000 in
theorem gX1_countStages_X1_greatestTime : GoodIn wsX1_countStages (wsV RX1 118 RX1 yX1_greatestTime wsX1_greatestTime) := goodIn_app (goodIn_of _ (by decide +kernel)) ggX1_countStages_X1_greatestTime
theorem dX1_countStages_0 : decode cX1_countStages 0 = .ok (.aload_n 0, 1) := by decide +kernel
theorem dX1_countStages_1 : decode cX1_countStages 1 = .ok (.getfield 23, 3) := by decide +kernel
theorem dX1_countStages_4 : decode cX1_countStages 4 = .ok (.getfield 43, 3) := by decide +kernel
theorem dX1_countStages_7 : decode cX1_countStages 7 = .ok (.ifCond .ne 7, 3) := by decide +kernel
theorem dX1_countStages_10 : decode cX1_countStages 10 = .ok (.iconst 0, 1) := by decide +kernel
theorem dX1_countStages_11 : decode cX1_countStages 11 = .ok (.goto 14, 3) := by decide +kernel
theorem dX1_countStages_14 : decode cX1_countStages 14 = .ok (.aload_n 0, 1) := by decide +kernel
theorem dX1_countStages_15 : decode cX1_countStages 15 = .ok (.invokevirtual 118, 3) := by decide +kernel
theorem dX1_countStages_18 : decode cX1_countStages 18 = .ok (.aload_n 0, 1) := by decide +kernel
theorem dX1_countStages_19 : decode cX1_countStages 19 = .ok (.getfield 27, 3) := by decide +kernel
theorem dX1_countStages_22 : decode cX1_countStages 22 = .ok (.idiv, 1) := by decide +kernel
theorem dX1_countStages_23 : decode cX1_countStages 23 = .ok (.iconst 1, 1) := by decide +kernel
theorem dX1_countStages_24 : decode cX1_countStages 24 = .ok (.iadd, 1) := by decide +kernel
theorem dX1_countStages_25 : decode cX1_countStages 25 = .ok (.ireturn, 1) := by decide +kernel
theorem dX1_stageOf_0 : decode cX1_stageOf 0 = .ok (.aload_n 0, 1) := by decide +kernel
theorem dX1_stageOf_1 : decode cX1_stageOf 1 = .ok (.getfield 9, 3) := by decide +kernel
theorem dX1_stageOf_4 : decode cX1_stageOf 4 = .ok (.iload_n 1, 1) := by decide +kernel
theorem dX1_stageOf_5 : decode cX1_stageOf 5 = .ok (.iaload, 1) := by decide +kernel
theorem dX1_stageOf_6 : decode cX1_stageOf 6 = .ok (.aload_n 0, 1) := by decide +kernel
theorem dX1_stageOf_7 : decode cX1_stageOf 7 = .ok (.getfield 27, 3) := by decide +kernel
theorem dX1_stageOf_10 : decode cX1_stageOf 10 = .ok (.idiv, 1) := by decide +kernel
theorem dX1_stageOf_11 : decode cX1_stageOf 11 = .ok (.ireturn, 1) := by decide +kernel
set_option maxRecDepth 20000 in
theorem ggX1_findLifetimes_J7_fill_53178 : GoodIn wsX1_findLifetimes wsJ7_fill_53178 := goodIn_r _ [16] (by decide +kernel) (by decide +kernel)
set_option maxRecDepth 20000 in
theorem gX1_findLifetimes_J7_fill_53178 : GoodIn wsX1_findLifetimes (va_wsS RX1 37 yJ7_fill_53178 wsJ7_fill_53178) := goodIn_app (goodIn_of _ (by decide +kernel)) ggX1_findLifetimes_J7_fill_53178
theorem dX1_findLifetimes_0 : decode cX1_findLifetimes 0 = .ok (.aload_n 0, 1) := by decide +kernel
theorem dX1_findLifetimes_1 : decode cX1_findLifetimes 1 = .ok (.getfield 20, 3) := by decide +kernel
theorem dX1_findLifetimes_4 : decode cX1_findLifetimes 4 = .ok (.iconst 0, 1) := by decide +kernel
theorem dX1_findLifetimes_5 : decode cX1_findLifetimes 5 = .ok (.invokestatic 37, 3) := by decide +kernel
theorem dX1_findLifetimes_8 : decode cX1_findLifetimes 8 = .ok (.iconst 0, 1) := by decide +kernel
theorem dX1_findLifetimes_9 : decode cX1_findLifetimes 9 = .ok (.istore_n 1, 1) := by decide +kernel
theorem dX1_findLifetimes_10 : decode cX1_findLifetimes 10 = .ok (.iload_n 1, 1) := by decide +kernel
theorem dX1_findLifetimes_11 : decode cX1_findLifetimes 11 = .ok (.aload_n 0, 1) := by decide +kernel
theorem dX1_findLifetimes_12 : decode cX1_findLifetimes 12 = .ok (.getfield 23, 3) := by decide +kernel
theorem dX1_findLifetimes_15 : decode cX1_findLifetimes 15 = .ok (.getfield 80, 3) := by decide +kernel
theorem dX1_findLifetimes_18 : decode cX1_findLifetimes 18 = .ok (.if_icmp .ge 72, 3) := by decide +kernel
theorem dX1_findLifetimes_21 : decode cX1_findLifetimes 21 = .ok (.aload_n 0, 1) := by decide +kernel
theorem dX1_findLifetimes_22 : decode cX1_findLifetimes 22 = .ok (.getfield 23, 3) := by decide +kernel
theorem dX1_findLifetimes_25 : decode cX1_findLifetimes 25 = .ok (.getfield 83, 3) := by decide +kernel
theorem dX1_findLifetimes_28 : decode cX1_findLifetimes 28 = .ok (.iload_n 1, 1) := by decide +kernel
theorem dX1_findLifetimes_29 : decode cX1_findLifetimes 29 = .ok (.iaload, 1) := by decide +kernel
theorem dX1_findLifetimes_30 : decode cX1_findLifetimes 30 = .ok (.istore_n 2, 1) := by decide +kernel
theorem dX1_findLifetimes_31 : decode cX1_findLifetimes 31 = .ok (.aload_n 0, 1) := by decide +kernel
theorem dX1_findLifetimes_32 : decode cX1_findLifetimes 32 = .ok (.getfield 9, 3) := by decide +kernel
theorem dX1_findLifetimes_35 : decode cX1_findLifetimes 35 = .ok (.aload_n 0, 1) := by decide +kernel
theorem dX1_findLifetimes_36 : decode cX1_findLifetimes 36 = .ok (.getfield 23, 3) := by decide +kernel
theorem dX1_findLifetimes_39 : decode cX1_findLifetimes 39 = .ok (.getfield 86, 3) := by decide +kernel
theorem dX1_findLifetimes_42 : decode cX1_findLifetimes 42 = .ok (.iload_n 1, 1) := by decide +kernel
theorem dX1_findLifetimes_43 : decode cX1_findLifetimes 43 = .ok (.iaload, 1) := by decide +kernel
theorem dX1_findLifetimes_44 : decode cX1_findLifetimes 44 = .ok (.iaload, 1) := by decide +kernel
theorem dX1_findLifetimes_45 : decode cX1_findLifetimes 45 = .ok (.aload_n 0, 1) := by decide +kernel
theorem dX1_findLifetimes_46 : decode cX1_findLifetimes 46 = .ok (.getfield 27, 3) := by decide +kernel
theorem dX1_findLifetimes_49 : decode cX1_findLifetimes 49 = .ok (.aload_n 0, 1) := by decide +kernel
theorem dX1_findLifetimes_50 : decode cX1_findLifetimes 50 = .ok (.getfield 23, 3) := by decide +kernel
theorem dX1_findLifetimes_53 : decode cX1_findLifetimes 53 = .ok (.getfield 92, 3) := by decide +kernel
theorem dX1_findLifetimes_56 : decode cX1_findLifetimes 56 = .ok (.iload_n 1, 1) := by decide +kernel
theorem dX1_findLifetimes_57 : decode cX1_findLifetimes 57 = .ok (.iaload, 1) := by decide +kernel
theorem dX1_findLifetimes_58 : decode cX1_findLifetimes 58 = .ok (.imul, 1) := by decide +kernel
theorem dX1_findLifetimes_59 : decode cX1_findLifetimes 59 = .ok (.iadd, 1) := by decide +kernel
theorem dX1_findLifetimes_60 : decode cX1_findLifetimes 60 = .ok (.istore_n 3, 1) := by decide +kernel
theorem dX1_findLifetimes_61 : decode cX1_findLifetimes 61 = .ok (.aload_n 0, 1) := by decide +kernel
theorem dX1_findLifetimes_62 : decode cX1_findLifetimes 62 = .ok (.getfield 20, 3) := by decide +kernel
theorem dX1_findLifetimes_65 : decode cX1_findLifetimes 65 = .ok (.iload_n 2, 1) := by decide +kernel
theorem dX1_findLifetimes_66 : decode cX1_findLifetimes 66 = .ok (.aload_n 0, 1) := by decide +kernel
theorem dX1_findLifetimes_67 : decode cX1_findLifetimes 67 = .ok (.getfield 20, 3) := by decide +kernel
theorem dX1_findLifetimes_70 : decode cX1_findLifetimes 70 = .ok (.iload_n 2, 1) := by decide +kernel
theorem dX1_findLifetimes_71 : decode cX1_findLifetimes 71 = .ok (.iaload, 1) := by decide +kernel
theorem dX1_findLifetimes_72 : decode cX1_findLifetimes 72 = .ok (.iload_n 3, 1) := by decide +kernel
theorem dX1_findLifetimes_73 : decode cX1_findLifetimes 73 = .ok (.aload_n 0, 1) := by decide +kernel
theorem dX1_findLifetimes_74 : decode cX1_findLifetimes 74 = .ok (.getfield 9, 3) := by decide +kernel
theorem dX1_findLifetimes_77 : decode cX1_findLifetimes 77 = .ok (.iload_n 2, 1) := by decide +kernel
theorem dX1_findLifetimes_78 : decode cX1_findLifetimes 78 = .ok (.iaload, 1) := by decide +kernel
theorem dX1_findLifetimes_79 : decode cX1_findLifetimes 79 = .ok (.isub, 1) := by decide +kernel
theorem dX1_findLifetimes_80 : decode cX1_findLifetimes 80 = .ok (.invokestatic 95, 3) := by decide +kernel
theorem dX1_findLifetimes_83 : decode cX1_findLifetimes 83 = .ok (.iastore, 1) := by decide +kernel
theorem dX1_findLifetimes_84 : decode cX1_findLifetimes 84 = .ok (.iinc 1 1, 3) := by decide +kernel
theorem dX1_findLifetimes_87 : decode cX1_findLifetimes 87 = .ok (.goto (-77), 3) := by decide +kernel
theorem dX1_findLifetimes_90 : decode cX1_findLifetimes 90 = .ok (.return_, 1) := by decide +kernel
set_option maxRecDepth 20000 in
theorem ggX1_countLive_J9_floorMod_7cf53 : GoodIn wsX1_countLive wsJ9_floorMod_7cf53 := goodIn_r _ [9] (by decide +kernel) (by decide +kernel)
set_option maxRecDepth 20000 in
theorem gX1_countLive_J9_floorMod_7cf53 : GoodIn wsX1_countLive (va_wsS RX1 121 yJ9_floorMod_7cf53 wsJ9_floorMod_7cf53) := goodIn_app (goodIn_of _ (by decide +kernel)) ggX1_countLive_J9_floorMod_7cf53
theorem dX1_countLive_0 : decode cX1_countLive 0 = .ok (.iconst 0, 1) := by decide +kernel
theorem dX1_countLive_1 : decode cX1_countLive 1 = .ok (.istore_n 2, 1) := by decide +kernel
theorem dX1_countLive_2 : decode cX1_countLive 2 = .ok (.iconst 0, 1) := by decide +kernel
theorem dX1_countLive_3 : decode cX1_countLive 3 = .ok (.istore_n 3, 1) := by decide +kernel
theorem dX1_countLive_4 : decode cX1_countLive 4 = .ok (.iload_n 3, 1) := by decide +kernel
theorem dX1_countLive_5 : decode cX1_countLive 5 = .ok (.aload_n 0, 1) := by decide +kernel
theorem dX1_countLive_6 : decode cX1_countLive 6 = .ok (.getfield 23, 3) := by decide +kernel
theorem dX1_countLive_9 : decode cX1_countLive 9 = .ok (.getfield 43, 3) := by decide +kernel
theorem dX1_countLive_12 : decode cX1_countLive 12 = .ok (.if_icmp .ge 59, 3) := by decide +kernel
theorem dX1_countLive_15 : decode cX1_countLive 15 = .ok (.iload_n 1, 1) := by decide +kernel
theorem dX1_countLive_16 : decode cX1_countLive 16 = .ok (.aload_n 0, 1) := by decide +kernel
theorem dX1_countLive_17 : decode cX1_countLive 17 = .ok (.getfield 9, 3) := by decide +kernel
theorem dX1_countLive_20 : decode cX1_countLive 20 = .ok (.iload_n 3, 1) := by decide +kernel
theorem dX1_countLive_21 : decode cX1_countLive 21 = .ok (.iaload, 1) := by decide +kernel
theorem dX1_countLive_22 : decode cX1_countLive 22 = .ok (.isub, 1) := by decide +kernel
theorem dX1_countLive_23 : decode cX1_countLive 23 = .ok (.aload_n 0, 1) := by decide +kernel
theorem dX1_countLive_24 : decode cX1_countLive 24 = .ok (.getfield 27, 3) := by decide +kernel
theorem dX1_countLive_27 : decode cX1_countLive 27 = .ok (.invokestatic 121, 3) := by decide +kernel
theorem dX1_countLive_30 : decode cX1_countLive 30 = .ok (.istore 4, 2) := by decide +kernel
theorem dX1_countLive_32 : decode cX1_countLive 32 = .ok (.iload_n 2, 1) := by decide +kernel
theorem dX1_countLive_33 : decode cX1_countLive 33 = .ok (.aload_n 0, 1) := by decide +kernel
theorem dX1_countLive_34 : decode cX1_countLive 34 = .ok (.getfield 20, 3) := by decide +kernel
theorem dX1_countLive_37 : decode cX1_countLive 37 = .ok (.iload_n 3, 1) := by decide +kernel
theorem dX1_countLive_38 : decode cX1_countLive 38 = .ok (.iaload, 1) := by decide +kernel
theorem dX1_countLive_39 : decode cX1_countLive 39 = .ok (.aload_n 0, 1) := by decide +kernel
theorem dX1_countLive_40 : decode cX1_countLive 40 = .ok (.getfield 27, 3) := by decide +kernel
theorem dX1_countLive_43 : decode cX1_countLive 43 = .ok (.idiv, 1) := by decide +kernel
theorem dX1_countLive_44 : decode cX1_countLive 44 = .ok (.iadd, 1) := by decide +kernel
theorem dX1_countLive_45 : decode cX1_countLive 45 = .ok (.istore_n 2, 1) := by decide +kernel
theorem dX1_countLive_46 : decode cX1_countLive 46 = .ok (.iload 4, 2) := by decide +kernel
theorem dX1_countLive_48 : decode cX1_countLive 48 = .ok (.aload_n 0, 1) := by decide +kernel
theorem dX1_countLive_49 : decode cX1_countLive 49 = .ok (.getfield 20, 3) := by decide +kernel
theorem dX1_countLive_52 : decode cX1_countLive 52 = .ok (.iload_n 3, 1) := by decide +kernel
theorem dX1_countLive_53 : decode cX1_countLive 53 = .ok (.iaload, 1) := by decide +kernel
theorem dX1_countLive_54 : decode cX1_countLive 54 = .ok (.aload_n 0, 1) := by decide +kernel
theorem dX1_countLive_55 : decode cX1_countLive 55 = .ok (.getfield 27, 3) := by decide +kernel
theorem dX1_countLive_58 : decode cX1_countLive 58 = .ok (.irem, 1) := by decide +kernel
theorem dX1_countLive_59 : decode cX1_countLive 59 = .ok (.if_icmp .ge 6, 3) := by decide +kernel
theorem dX1_countLive_62 : decode cX1_countLive 62 = .ok (.iinc 2 1, 3) := by decide +kernel
theorem dX1_countLive_65 : decode cX1_countLive 65 = .ok (.iinc 3 1, 3) := by decide +kernel
theorem dX1_countLive_68 : decode cX1_countLive 68 = .ok (.goto (-64), 3) := by decide +kernel
theorem dX1_countLive_71 : decode cX1_countLive 71 = .ok (.iload_n 2, 1) := by decide +kernel
theorem dX1_countLive_72 : decode cX1_countLive 72 = .ok (.ireturn, 1) := by decide +kernel
theorem dX1_countCopies_0 : decode cX1_countCopies 0 = .ok (.iconst 1, 1) := by decide +kernel
theorem dX1_countCopies_1 : decode cX1_countCopies 1 = .ok (.aload_n 0, 1) := by decide +kernel
theorem dX1_countCopies_2 : decode cX1_countCopies 2 = .ok (.getfield 20, 3) := by decide +kernel
theorem dX1_countCopies_5 : decode cX1_countCopies 5 = .ok (.iload_n 1, 1) := by decide +kernel
theorem dX1_countCopies_6 : decode cX1_countCopies 6 = .ok (.iaload, 1) := by decide +kernel
theorem dX1_countCopies_7 : decode cX1_countCopies 7 = .ok (.aload_n 0, 1) := by decide +kernel
theorem dX1_countCopies_8 : decode cX1_countCopies 8 = .ok (.getfield 27, 3) := by decide +kernel
theorem dX1_countCopies_11 : decode cX1_countCopies 11 = .ok (.iadd, 1) := by decide +kernel
theorem dX1_countCopies_12 : decode cX1_countCopies 12 = .ok (.iconst 1, 1) := by decide +kernel
theorem dX1_countCopies_13 : decode cX1_countCopies 13 = .ok (.isub, 1) := by decide +kernel
theorem dX1_countCopies_14 : decode cX1_countCopies 14 = .ok (.aload_n 0, 1) := by decide +kernel
theorem dX1_countCopies_15 : decode cX1_countCopies 15 = .ok (.getfield 27, 3) := by decide +kernel
theorem dX1_countCopies_18 : decode cX1_countCopies 18 = .ok (.idiv, 1) := by decide +kernel
theorem dX1_countCopies_19 : decode cX1_countCopies 19 = .ok (.invokestatic 95, 3) := by decide +kernel
theorem dX1_countCopies_22 : decode cX1_countCopies 22 = .ok (.ireturn, 1) := by decide +kernel
theorem dJ9_floorMod_7cf53_0 : decode cJ9_floorMod_7cf53 0 = .ok (.iload_n 0, 1) := by decide +kernel
theorem dJ9_floorMod_7cf53_1 : decode cJ9_floorMod_7cf53 1 = .ok (.iload_n 1, 1) := by decide +kernel
theorem dJ9_floorMod_7cf53_2 : decode cJ9_floorMod_7cf53 2 = .ok (.irem, 1) := by decide +kernel
theorem dJ9_floorMod_7cf53_3 : decode cJ9_floorMod_7cf53 3 = .ok (.istore_n 2, 1) := by decide +kernel
theorem dJ9_floorMod_7cf53_4 : decode cJ9_floorMod_7cf53 4 = .ok (.iload_n 0, 1) := by decide +kernel
theorem dJ9_floorMod_7cf53_5 : decode cJ9_floorMod_7cf53 5 = .ok (.iload_n 1, 1) := by decide +kernel
theorem dJ9_floorMod_7cf53_6 : decode cJ9_floorMod_7cf53 6 = .ok (.ixor, 1) := by decide +kernel
theorem dJ9_floorMod_7cf53_7 : decode cJ9_floorMod_7cf53 7 = .ok (.ifCond .ge 11, 3) := by decide +kernel
theorem dJ9_floorMod_7cf53_10 : decode cJ9_floorMod_7cf53 10 = .ok (.iload_n 2, 1) := by decide +kernel
theorem dJ9_floorMod_7cf53_11 : decode cJ9_floorMod_7cf53 11 = .ok (.ifCond .eq 7, 3) := by decide +kernel
theorem dJ9_floorMod_7cf53_14 : decode cJ9_floorMod_7cf53 14 = .ok (.iload_n 2, 1) := by decide +kernel
theorem dJ9_floorMod_7cf53_15 : decode cJ9_floorMod_7cf53 15 = .ok (.iload_n 1, 1) := by decide +kernel
theorem dJ9_floorMod_7cf53_16 : decode cJ9_floorMod_7cf53 16 = .ok (.iadd, 1) := by decide +kernel
theorem dJ9_floorMod_7cf53_17 : decode cJ9_floorMod_7cf53 17 = .ok (.ireturn, 1) := by decide +kernel
theorem dJ9_floorMod_7cf53_18 : decode cJ9_floorMod_7cf53 18 = .ok (.iload_n 2, 1) := by decide +kernel
theorem dJ9_floorMod_7cf53_19 : decode cJ9_floorMod_7cf53 19 = .ok (.ireturn, 1) := by decide +kernel
theorem dJ9_max_7cf53_0 : decode cJ9_max_7cf53 0 = .ok (.iload_n 0, 1) := by decide +kernel
theorem dJ9_max_7cf53_1 : decode cJ9_max_7cf53 1 = .ok (.iload_n 1, 1) := by decide +kernel
theorem dJ9_max_7cf53_2 : decode cJ9_max_7cf53 2 = .ok (.if_icmp .lt 7, 3) := by decide +kernel
theorem dJ9_max_7cf53_5 : decode cJ9_max_7cf53 5 = .ok (.iload_n 0, 1) := by decide +kernel
theorem dJ9_max_7cf53_6 : decode cJ9_max_7cf53 6 = .ok (.goto 4, 3) := by decide +kernel
theorem dJ9_max_7cf53_9 : decode cJ9_max_7cf53 9 = .ok (.iload_n 1, 1) := by decide +kernel
theorem dJ9_max_7cf53_10 : decode cJ9_max_7cf53 10 = .ok (.ireturn, 1) := by decide +kernel
theorem dJ9_min_7cf53_0 : decode cJ9_min_7cf53 0 = .ok (.iload_n 0, 1) := by decide +kernel
theorem dJ9_min_7cf53_1 : decode cJ9_min_7cf53 1 = .ok (.iload_n 1, 1) := by decide +kernel
theorem dJ9_min_7cf53_2 : decode cJ9_min_7cf53 2 = .ok (.if_icmp .gt 7, 3) := by decide +kernel
theorem dJ9_min_7cf53_5 : decode cJ9_min_7cf53 5 = .ok (.iload_n 0, 1) := by decide +kernel
theorem dJ9_min_7cf53_6 : decode cJ9_min_7cf53 6 = .ok (.goto 4, 3) := by decide +kernel
theorem dJ9_min_7cf53_9 : decode cJ9_min_7cf53 9 = .ok (.iload_n 1, 1) := by decide +kernel
theorem dJ9_min_7cf53_10 : decode cJ9_min_7cf53 10 = .ok (.ireturn, 1) := by decide +kernel
theorem dJ7_fill_53178_0 : decode cJ7_fill_53178 0 = .ok (.iconst 0, 1) := by decide +kernel
theorem dJ7_fill_53178_1 : decode cJ7_fill_53178 1 = .ok (.istore_n 2, 1) := by decide +kernel
theorem dJ7_fill_53178_2 : decode cJ7_fill_53178 2 = .ok (.aload_n 0, 1) := by decide +kernel
theorem dJ7_fill_53178_3 : decode cJ7_fill_53178 3 = .ok (.arraylength, 1) := by decide +kernel
theorem dJ7_fill_53178_4 : decode cJ7_fill_53178 4 = .ok (.istore_n 3, 1) := by decide +kernel
theorem dJ7_fill_53178_5 : decode cJ7_fill_53178 5 = .ok (.iload_n 2, 1) := by decide +kernel
theorem dJ7_fill_53178_6 : decode cJ7_fill_53178 6 = .ok (.iload_n 3, 1) := by decide +kernel
theorem dJ7_fill_53178_7 : decode cJ7_fill_53178 7 = .ok (.if_icmp .ge 13, 3) := by decide +kernel
theorem dJ7_fill_53178_10 : decode cJ7_fill_53178 10 = .ok (.aload_n 0, 1) := by decide +kernel
theorem dJ7_fill_53178_11 : decode cJ7_fill_53178 11 = .ok (.iload_n 2, 1) := by decide +kernel
theorem dJ7_fill_53178_12 : decode cJ7_fill_53178 12 = .ok (.iload_n 1, 1) := by decide +kernel
theorem dJ7_fill_53178_13 : decode cJ7_fill_53178 13 = .ok (.iastore, 1) := by decide +kernel
theorem dJ7_fill_53178_14 : decode cJ7_fill_53178 14 = .ok (.iinc 2 1, 3) := by decide +kernel
theorem dJ7_fill_53178_17 : decode cJ7_fill_53178 17 = .ok (.goto (-12), 3) := by decide +kernel
theorem dJ7_fill_53178_20 : decode cJ7_fill_53178 20 = .ok (.return_, 1) := by decide +kernel
end
section
set_option maxRecDepth 20000 in
theorem ggX2_init_X0_init : GoodIn wsX2_init wsX0_init := goodIn_r _ [14, 15, 2, 3, 16, 17, 18, 19, 20, 21, 22, 23, 24, 34, 35, 36, 37, 38, 39, 40, 41, 42, 43] (by decide +kernel) (by decide +kernel)
set_option maxRecDepth 20000 in
theorem gX2_init_X0_init : GoodIn wsX2_init (wsX0_init) := ggX2_init_X0_init
set_option maxRecDepth 20000 in
theorem ggX2_init_X1_init : GoodIn wsX2_init wsX1_init := goodIn_r _ [27, 28, 2, 3, 16, 29, 30, 31, 32, 33, 47, 48, 49, 50, 51] (by decide +kernel) (by decide +kernel)
set_option maxRecDepth 20000 in
theorem gX2_init_X1_init : GoodIn wsX2_init (wsX1_init) := ggX2_init_X1_init
theorem dX2_init_0 : decode cX2_init 0 = .ok (.aload_n 0, 1) := by decide +kernel
theorem dX2_init_1 : decode cX2_init 1 = .ok (.invokespecial 1, 3) := by decide +kernel
theorem dX2_init_4 : decode cX2_init 4 = .ok (.aload_n 0, 1) := by decide +kernel
theorem dX2_init_5 : decode cX2_init 5 = .ok (.new 7, 3) := by decide +kernel
theorem dX2_init_8 : decode cX2_init 8 = .ok (.dup, 1) := by decide +kernel
theorem dX2_init_9 : decode cX2_init 9 = .ok (.invokespecial 9, 3) := by decide +kernel
theorem dX2_init_12 : decode cX2_init 12 = .ok (.putfield 10, 3) := by decide +kernel
theorem dX2_init_15 : decode cX2_init 15 = .ok (.aload_n 0, 1) := by decide +kernel
theorem dX2_init_16 : decode cX2_init 16 = .ok (.new 16, 3) := by decide +kernel
theorem dX2_init_19 : decode cX2_init 19 = .ok (.dup, 1) := by decide +kernel
theorem dX2_init_20 : decode cX2_init 20 = .ok (.aload_n 0, 1) := by decide +kernel
theorem dX2_init_21 : decode cX2_init 21 = .ok (.getfield 10, 3) := by decide +kernel
theorem dX2_init_24 : decode cX2_init 24 = .ok (.invokespecial 18, 3) := by decide +kernel
theorem dX2_init_27 : decode cX2_init 27 = .ok (.putfield 21, 3) := by decide +kernel
theorem dX2_init_30 : decode cX2_init 30 = .ok (.return_, 1) := by decide +kernel
set_option maxRecDepth 20000 in
theorem ggX2_setUnits_X2_requireKind : GoodIn wsX2_setUnits wsX2_requireKind := goodIn_ca (goodIn_r _ [9, 10, 11, 12, 13, 8, 14] (by decide +kernel) (by decide +kernel)) (goodIn_sub (fun _ h => List.mem_cons_of_mem _ (List.mem_append_right _ h)) (by decide +kernel))
set_option maxRecDepth 20000 in
theorem gX2_setUnits_X2_requireKind : GoodIn wsX2_setUnits (va_wsS RX2 25 yX2_requireKind wsX2_requireKind) := goodIn_app (goodIn_of _ (by decide +kernel)) ggX2_setUnits_X2_requireKind
set_option maxRecDepth 20000 in
theorem ggX2_setUnits_X1_drop : GoodIn wsX2_setUnits wsX1_drop := goodIn_r _ [19, 20, 34, 35, 36, 37, 38] (by decide +kernel) (by decide +kernel)
set_option maxRecDepth 20000 in
theorem gX2_setUnits_X1_drop : GoodIn wsX2_setUnits (wsV RX2 40 RX1 yX1_drop wsX1_drop) := goodIn_app (goodIn_of _ (by decide +kernel)) ggX2_setUnits_X1_drop
theorem dX2_setUnits_0 : decode cX2_setUnits 0 = .ok (.iload_n 1, 1) := by decide +kernel
theorem dX2_setUnits_1 : decode cX2_setUnits 1 = .ok (.invokestatic 25, 3) := by decide +kernel
theorem dX2_setUnits_4 : decode cX2_setUnits 4 = .ok (.iload_n 2, 1) := by decide +kernel
theorem dX2_setUnits_5 : decode cX2_setUnits 5 = .ok (.iconst 1, 1) := by decide +kernel
theorem dX2_setUnits_6 : decode cX2_setUnits 6 = .ok (.if_icmp .lt 8, 3) := by decide +kernel
theorem dX2_setUnits_9 : decode cX2_setUnits 9 = .ok (.iload_n 2, 1) := by decide +kernel
theorem dX2_setUnits_10 : decode cX2_setUnits 10 = .ok (.iconst 3, 1) := by decide +kernel
theorem dX2_setUnits_11 : decode cX2_setUnits 11 = .ok (.if_icmp .le 13, 3) := by decide +kernel
theorem dX2_setUnits_14 : decode cX2_setUnits 14 = .ok (.new 29, 3) := by decide +kernel
theorem dX2_setUnits_17 : decode cX2_setUnits 17 = .ok (.dup, 1) := by decide +kernel
theorem dX2_setUnits_18 : decode cX2_setUnits 18 = .ok (.ldc 31, 2) := by decide +kernel
theorem dX2_setUnits_20 : decode cX2_setUnits 20 = .ok (.invokespecial 33, 3) := by decide +kernel
theorem dX2_setUnits_23 : decode cX2_setUnits 23 = .ok (.athrow, 1) := by decide +kernel
theorem dX2_setUnits_24 : decode cX2_setUnits 24 = .ok (.aload_n 0, 1) := by decide +kernel
theorem dX2_setUnits_25 : decode cX2_setUnits 25 = .ok (.getfield 10, 3) := by decide +kernel
theorem dX2_setUnits_28 : decode cX2_setUnits 28 = .ok (.getfield 36, 3) := by decide +kernel
theorem dX2_setUnits_31 : decode cX2_setUnits 31 = .ok (.iload_n 1, 1) := by decide +kernel
theorem dX2_setUnits_32 : decode cX2_setUnits 32 = .ok (.iaload, 1) := by decide +kernel
theorem dX2_setUnits_33 : decode cX2_setUnits 33 = .ok (.istore_n 3, 1) := by decide +kernel
theorem dX2_setUnits_34 : decode cX2_setUnits 34 = .ok (.aload_n 0, 1) := by decide +kernel
theorem dX2_setUnits_35 : decode cX2_setUnits 35 = .ok (.getfield 10, 3) := by decide +kernel
theorem dX2_setUnits_38 : decode cX2_setUnits 38 = .ok (.getfield 36, 3) := by decide +kernel
theorem dX2_setUnits_41 : decode cX2_setUnits 41 = .ok (.iload_n 1, 1) := by decide +kernel
theorem dX2_setUnits_42 : decode cX2_setUnits 42 = .ok (.iload_n 2, 1) := by decide +kernel
theorem dX2_setUnits_43 : decode cX2_setUnits 43 = .ok (.iastore, 1) := by decide +kernel
theorem dX2_setUnits_44 : decode cX2_setUnits 44 = .ok (.aload_n 0, 1) := by decide +kernel
theorem dX2_setUnits_45 : decode cX2_setUnits 45 = .ok (.getfield 21, 3) := by decide +kernel
theorem dX2_setUnits_48 : decode cX2_setUnits 48 = .ok (.invokevirtual 40, 3) := by decide +kernel
theorem dX2_setUnits_51 : decode cX2_setUnits 51 = .ok (.iload_n 3, 1) := by decide +kernel
theorem dX2_setUnits_52 : decode cX2_setUnits 52 = .ok (.ireturn, 1) := by decide +kernel
set_option maxRecDepth 20000 in
theorem ggX2_addOperation_X2_isKind : GoodIn wsX2_addOperation wsX2_isKind := goodIn_r _ [11] (by decide +kernel) (by decide +kernel)
set_option maxRecDepth 20000 in
theorem gX2_addOperation_X2_isKind : GoodIn wsX2_addOperation (va_wsS RX2 43 yX2_isKind wsX2_isKind) := goodIn_app (goodIn_of _ (by decide +kernel)) ggX2_addOperation_X2_isKind
set_option maxRecDepth 20000 in
theorem ggX2_addOperation_X1_drop : GoodIn wsX2_addOperation wsX1_drop := goodIn_r _ [16, 17, 39, 40, 41, 42, 43] (by decide +kernel) (by decide +kernel)
set_option maxRecDepth 20000 in
theorem gX2_addOperation_X1_drop : GoodIn wsX2_addOperation (wsV RX2 40 RX1 yX1_drop wsX1_drop) := goodIn_app (goodIn_of _ (by decide +kernel)) ggX2_addOperation_X1_drop
set_option maxRecDepth 20000 in
theorem ggX2_addOperation_X0_appendOperation : GoodIn wsX2_addOperation wsX0_appendOperation := goodIn_r _ [22, 23, 24, 25, 29, 30, 31, 32, 33, 34, 35, 36, 37, 38] (by decide +kernel) (by decide +kernel)
set_option maxRecDepth 20000 in
theorem gX2_addOperation_X0_appendOperation : GoodIn wsX2_addOperation (wsV RX2 60 RX0 yX0_appendOperation wsX0_appendOperation) := goodIn_app (goodIn_of _ (by decide +kernel)) ggX2_addOperation_X0_appendOperation
theorem dX2_addOperation_0 : decode cX2_addOperation 0 = .ok (.iload_n 1, 1) := by decide +kernel
theorem dX2_addOperation_1 : decode cX2_addOperation 1 = .ok (.invokestatic 43, 3) := by decide +kernel
theorem dX2_addOperation_4 : decode cX2_addOperation 4 = .ok (.ifCond .ne 13, 3) := by decide +kernel
theorem dX2_addOperation_7 : decode cX2_addOperation 7 = .ok (.new 29, 3) := by decide +kernel
theorem dX2_addOperation_10 : decode cX2_addOperation 10 = .ok (.dup, 1) := by decide +kernel
theorem dX2_addOperation_11 : decode cX2_addOperation 11 = .ok (.ldc 47, 2) := by decide +kernel
theorem dX2_addOperation_13 : decode cX2_addOperation 13 = .ok (.invokespecial 33, 3) := by decide +kernel
theorem dX2_addOperation_16 : decode cX2_addOperation 16 = .ok (.athrow, 1) := by decide +kernel
theorem dX2_addOperation_17 : decode cX2_addOperation 17 = .ok (.iload_n 2, 1) := by decide +kernel
theorem dX2_addOperation_18 : decode cX2_addOperation 18 = .ok (.iconst 1, 1) := by decide +kernel
theorem dX2_addOperation_19 : decode cX2_addOperation 19 = .ok (.if_icmp .lt 8, 3) := by decide +kernel
theorem dX2_addOperation_22 : decode cX2_addOperation 22 = .ok (.iload_n 2, 1) := by decide +kernel
theorem dX2_addOperation_23 : decode cX2_addOperation 23 = .ok (.iconst 4, 1) := by decide +kernel
theorem dX2_addOperation_24 : decode cX2_addOperation 24 = .ok (.if_icmp .le 13, 3) := by decide +kernel
theorem dX2_addOperation_27 : decode cX2_addOperation 27 = .ok (.new 29, 3) := by decide +kernel
theorem dX2_addOperation_30 : decode cX2_addOperation 30 = .ok (.dup, 1) := by decide +kernel
theorem dX2_addOperation_31 : decode cX2_addOperation 31 = .ok (.ldc 49, 2) := by decide +kernel
theorem dX2_addOperation_33 : decode cX2_addOperation 33 = .ok (.invokespecial 33, 3) := by decide +kernel
theorem dX2_addOperation_36 : decode cX2_addOperation 36 = .ok (.athrow, 1) := by decide +kernel
theorem dX2_addOperation_37 : decode cX2_addOperation 37 = .ok (.aload_n 0, 1) := by decide +kernel
theorem dX2_addOperation_38 : decode cX2_addOperation 38 = .ok (.getfield 10, 3) := by decide +kernel
theorem dX2_addOperation_41 : decode cX2_addOperation 41 = .ok (.getfield 51, 3) := by decide +kernel
theorem dX2_addOperation_44 : decode cX2_addOperation 44 = .ok (.bipush 14, 2) := by decide +kernel
theorem dX2_addOperation_46 : decode cX2_addOperation 46 = .ok (.if_icmp .lt 13, 3) := by decide +kernel
theorem dX2_addOperation_49 : decode cX2_addOperation 49 = .ok (.new 55, 3) := by decide +kernel
theorem dX2_addOperation_52 : decode cX2_addOperation 52 = .ok (.dup, 1) := by decide +kernel
theorem dX2_addOperation_53 : decode cX2_addOperation 53 = .ok (.ldc 57, 2) := by decide +kernel
theorem dX2_addOperation_55 : decode cX2_addOperation 55 = .ok (.invokespecial 59, 3) := by decide +kernel
theorem dX2_addOperation_58 : decode cX2_addOperation 58 = .ok (.athrow, 1) := by decide +kernel
theorem dX2_addOperation_59 : decode cX2_addOperation 59 = .ok (.aload_n 0, 1) := by decide +kernel
theorem dX2_addOperation_60 : decode cX2_addOperation 60 = .ok (.getfield 21, 3) := by decide +kernel
theorem dX2_addOperation_63 : decode cX2_addOperation 63 = .ok (.invokevirtual 40, 3) := by decide +kernel
theorem dX2_addOperation_66 : decode cX2_addOperation 66 = .ok (.aload_n 0, 1) := by decide +kernel
theorem dX2_addOperation_67 : decode cX2_addOperation 67 = .ok (.getfield 10, 3) := by decide +kernel
theorem dX2_addOperation_70 : decode cX2_addOperation 70 = .ok (.iload_n 1, 1) := by decide +kernel
theorem dX2_addOperation_71 : decode cX2_addOperation 71 = .ok (.iload_n 2, 1) := by decide +kernel
theorem dX2_addOperation_72 : decode cX2_addOperation 72 = .ok (.invokevirtual 60, 3) := by decide +kernel
theorem dX2_addOperation_75 : decode cX2_addOperation 75 = .ok (.ireturn, 1) := by decide +kernel
set_option maxRecDepth 20000 in
theorem ggX2_addDependence_X2_requireOperation : GoodIn wsX2_addDependence wsX2_requireOperation := goodIn_ca (goodIn_r _ [12, 13, 14, 5, 15, 35, 36, 37, 38, 39, 40, 41, 42, 43, 44, 45, 46, 47] (by decide +kernel) (by decide +kernel)) (goodIn_sub (fun _ h => List.mem_cons_of_mem _ (List.mem_append_right _ h)) (by decide +kernel))
set_option maxRecDepth 20000 in
theorem gX2_addDependence_X2_requireOperation : GoodIn wsX2_addDependence (wsV RX2 64 RX2 yX2_requireOperation wsX2_requireOperation) := goodIn_app (goodIn_of _ (by decide +kernel)) ggX2_addDependence_X2_requireOperation
set_option maxRecDepth 20000 in
theorem ggX2_addDependence_X2_requireDelay : GoodIn wsX2_addDependence wsX2_requireDelay := goodIn_ca (goodIn_r _ [18, 1, 2] (by decide +kernel) (by decide +kernel)) (goodIn_sub (fun _ h => List.mem_cons_of_mem _ (List.mem_append_left _ (List.mem_append_left _ (List.mem_append_right _ h)))) (by decide +kernel))
set_option maxRecDepth 20000 in
theorem gX2_addDependence_X2_requireDelay : GoodIn wsX2_addDependence (va_wsS RX2 67 yX2_requireDelay wsX2_requireDelay) := goodIn_app (goodIn_of _ (by decide +kernel)) ggX2_addDependence_X2_requireDelay
set_option maxRecDepth 20000 in
theorem ggX2_addDependence_X1_drop : GoodIn wsX2_addDependence wsX1_drop := goodIn_r _ [23, 24, 48, 49, 50, 51, 52] (by decide +kernel) (by decide +kernel)
set_option maxRecDepth 20000 in
theorem gX2_addDependence_X1_drop : GoodIn wsX2_addDependence (wsV RX2 40 RX1 yX1_drop wsX1_drop) := goodIn_app (goodIn_of _ (by decide +kernel)) ggX2_addDependence_X1_drop
set_option maxRecDepth 20000 in
theorem ggX2_addDependence_X0_appendDependence : GoodIn wsX2_addDependence wsX0_appendDependence := goodIn_r _ [29, 30, 31, 32, 33, 34, 38, 39, 40, 41, 42, 43, 44, 45, 46, 47] (by decide +kernel) (by decide +kernel)
set_option maxRecDepth 20000 in
theorem gX2_addDependence_X0_appendDependence : GoodIn wsX2_addDependence (wsV RX2 77 RX0 yX0_appendDependence wsX0_appendDependence) := goodIn_app (goodIn_of _ (by decide +kernel)) ggX2_addDependence_X0_appendDependence
theorem dX2_addDependence_0 : decode cX2_addDependence 0 = .ok (.aload_n 0, 1) := by decide +kernel
theorem dX2_addDependence_1 : decode cX2_addDependence 1 = .ok (.iload_n 1, 1) := by decide +kernel
theorem dX2_addDependence_2 : decode cX2_addDependence 2 = .ok (.invokevirtual 64, 3) := by decide +kernel
theorem dX2_addDependence_5 : decode cX2_addDependence 5 = .ok (.aload_n 0, 1) := by decide +kernel
theorem dX2_addDependence_6 : decode cX2_addDependence 6 = .ok (.iload_n 2, 1) := by decide +kernel
theorem dX2_addDependence_7 : decode cX2_addDependence 7 = .ok (.invokevirtual 64, 3) := by decide +kernel
theorem dX2_addDependence_10 : decode cX2_addDependence 10 = .ok (.iload_n 3, 1) := by decide +kernel
theorem dX2_addDependence_11 : decode cX2_addDependence 11 = .ok (.invokestatic 67, 3) := by decide +kernel
theorem dX2_addDependence_14 : decode cX2_addDependence 14 = .ok (.iload 4, 2) := by decide +kernel
theorem dX2_addDependence_16 : decode cX2_addDependence 16 = .ok (.ifCond .lt 9, 3) := by decide +kernel
theorem dX2_addDependence_19 : decode cX2_addDependence 19 = .ok (.iload 4, 2) := by decide +kernel
theorem dX2_addDependence_21 : decode cX2_addDependence 21 = .ok (.iconst 3, 1) := by decide +kernel
theorem dX2_addDependence_22 : decode cX2_addDependence 22 = .ok (.if_icmp .le 13, 3) := by decide +kernel
theorem dX2_addDependence_25 : decode cX2_addDependence 25 = .ok (.new 29, 3) := by decide +kernel
theorem dX2_addDependence_28 : decode cX2_addDependence 28 = .ok (.dup, 1) := by decide +kernel
theorem dX2_addDependence_29 : decode cX2_addDependence 29 = .ok (.ldc 70, 2) := by decide +kernel
theorem dX2_addDependence_31 : decode cX2_addDependence 31 = .ok (.invokespecial 33, 3) := by decide +kernel
theorem dX2_addDependence_34 : decode cX2_addDependence 34 = .ok (.athrow, 1) := by decide +kernel
theorem dX2_addDependence_35 : decode cX2_addDependence 35 = .ok (.aload_n 0, 1) := by decide +kernel
theorem dX2_addDependence_36 : decode cX2_addDependence 36 = .ok (.getfield 10, 3) := by decide +kernel
theorem dX2_addDependence_39 : decode cX2_addDependence 39 = .ok (.getfield 72, 3) := by decide +kernel
theorem dX2_addDependence_42 : decode cX2_addDependence 42 = .ok (.bipush 40, 2) := by decide +kernel
theorem dX2_addDependence_44 : decode cX2_addDependence 44 = .ok (.if_icmp .lt 13, 3) := by decide +kernel
theorem dX2_addDependence_47 : decode cX2_addDependence 47 = .ok (.new 55, 3) := by decide +kernel
theorem dX2_addDependence_50 : decode cX2_addDependence 50 = .ok (.dup, 1) := by decide +kernel
theorem dX2_addDependence_51 : decode cX2_addDependence 51 = .ok (.ldc 75, 2) := by decide +kernel
theorem dX2_addDependence_53 : decode cX2_addDependence 53 = .ok (.invokespecial 59, 3) := by decide +kernel
theorem dX2_addDependence_56 : decode cX2_addDependence 56 = .ok (.athrow, 1) := by decide +kernel
theorem dX2_addDependence_57 : decode cX2_addDependence 57 = .ok (.aload_n 0, 1) := by decide +kernel
theorem dX2_addDependence_58 : decode cX2_addDependence 58 = .ok (.getfield 21, 3) := by decide +kernel
theorem dX2_addDependence_61 : decode cX2_addDependence 61 = .ok (.invokevirtual 40, 3) := by decide +kernel
theorem dX2_addDependence_64 : decode cX2_addDependence 64 = .ok (.aload_n 0, 1) := by decide +kernel
theorem dX2_addDependence_65 : decode cX2_addDependence 65 = .ok (.getfield 10, 3) := by decide +kernel
theorem dX2_addDependence_68 : decode cX2_addDependence 68 = .ok (.iload_n 1, 1) := by decide +kernel
theorem dX2_addDependence_69 : decode cX2_addDependence 69 = .ok (.iload_n 2, 1) := by decide +kernel
theorem dX2_addDependence_70 : decode cX2_addDependence 70 = .ok (.iload_n 3, 1) := by decide +kernel
theorem dX2_addDependence_71 : decode cX2_addDependence 71 = .ok (.iload 4, 2) := by decide +kernel
theorem dX2_addDependence_73 : decode cX2_addDependence 73 = .ok (.invokevirtual 77, 3) := by decide +kernel
theorem dX2_addDependence_76 : decode cX2_addDependence 76 = .ok (.ireturn, 1) := by decide +kernel
set_option maxRecDepth 20000 in
theorem ggX2_setDelay_X2_requireDelay : GoodIn wsX2_setDelay wsX2_requireDelay := goodIn_ca (goodIn_r _ [10, 11, 12] (by decide +kernel) (by decide +kernel)) (goodIn_sub (fun _ h => List.mem_cons_of_mem _ (List.mem_append_right _ h)) (by decide +kernel))
set_option maxRecDepth 20000 in
theorem gX2_setDelay_X2_requireDelay : GoodIn wsX2_setDelay (va_wsS RX2 67 yX2_requireDelay wsX2_requireDelay) := goodIn_app (goodIn_of _ (by decide +kernel)) ggX2_setDelay_X2_requireDelay
set_option maxRecDepth 20000 in
theorem ggX2_setDelay_X1_drop : GoodIn wsX2_setDelay wsX1_drop := goodIn_r _ [17, 18, 32, 33, 34, 35, 36] (by decide +kernel) (by decide +kernel)
set_option maxRecDepth 20000 in
theorem gX2_setDelay_X1_drop : GoodIn wsX2_setDelay (wsV RX2 40 RX1 yX1_drop wsX1_drop) := goodIn_app (goodIn_of _ (by decide +kernel)) ggX2_setDelay_X1_drop
theorem dX2_setDelay_0 : decode cX2_setDelay 0 = .ok (.iload_n 1, 1) := by decide +kernel
theorem dX2_setDelay_1 : decode cX2_setDelay 1 = .ok (.ifCond .lt 14, 3) := by decide +kernel
theorem dX2_setDelay_4 : decode cX2_setDelay 4 = .ok (.iload_n 1, 1) := by decide +kernel
theorem dX2_setDelay_5 : decode cX2_setDelay 5 = .ok (.aload_n 0, 1) := by decide +kernel
theorem dX2_setDelay_6 : decode cX2_setDelay 6 = .ok (.getfield 10, 3) := by decide +kernel
theorem dX2_setDelay_9 : decode cX2_setDelay 9 = .ok (.getfield 72, 3) := by decide +kernel
theorem dX2_setDelay_12 : decode cX2_setDelay 12 = .ok (.if_icmp .lt 13, 3) := by decide +kernel
theorem dX2_setDelay_15 : decode cX2_setDelay 15 = .ok (.new 81, 3) := by decide +kernel
theorem dX2_setDelay_18 : decode cX2_setDelay 18 = .ok (.dup, 1) := by decide +kernel
theorem dX2_setDelay_19 : decode cX2_setDelay 19 = .ok (.ldc 83, 2) := by decide +kernel
theorem dX2_setDelay_21 : decode cX2_setDelay 21 = .ok (.invokespecial 85, 3) := by decide +kernel
theorem dX2_setDelay_24 : decode cX2_setDelay 24 = .ok (.athrow, 1) := by decide +kernel
theorem dX2_setDelay_25 : decode cX2_setDelay 25 = .ok (.iload_n 2, 1) := by decide +kernel
theorem dX2_setDelay_26 : decode cX2_setDelay 26 = .ok (.invokestatic 67, 3) := by decide +kernel
theorem dX2_setDelay_29 : decode cX2_setDelay 29 = .ok (.aload_n 0, 1) := by decide +kernel
theorem dX2_setDelay_30 : decode cX2_setDelay 30 = .ok (.getfield 10, 3) := by decide +kernel
theorem dX2_setDelay_33 : decode cX2_setDelay 33 = .ok (.getfield 86, 3) := by decide +kernel
theorem dX2_setDelay_36 : decode cX2_setDelay 36 = .ok (.iload_n 1, 1) := by decide +kernel
theorem dX2_setDelay_37 : decode cX2_setDelay 37 = .ok (.iaload, 1) := by decide +kernel
theorem dX2_setDelay_38 : decode cX2_setDelay 38 = .ok (.istore_n 3, 1) := by decide +kernel
theorem dX2_setDelay_39 : decode cX2_setDelay 39 = .ok (.aload_n 0, 1) := by decide +kernel
theorem dX2_setDelay_40 : decode cX2_setDelay 40 = .ok (.getfield 10, 3) := by decide +kernel
theorem dX2_setDelay_43 : decode cX2_setDelay 43 = .ok (.getfield 86, 3) := by decide +kernel
theorem dX2_setDelay_46 : decode cX2_setDelay 46 = .ok (.iload_n 1, 1) := by decide +kernel
theorem dX2_setDelay_47 : decode cX2_setDelay 47 = .ok (.iload_n 2, 1) := by decide +kernel
theorem dX2_setDelay_48 : decode cX2_setDelay 48 = .ok (.iastore, 1) := by decide +kernel
theorem dX2_setDelay_49 : decode cX2_setDelay 49 = .ok (.aload_n 0, 1) := by decide +kernel
theorem dX2_setDelay_50 : decode cX2_setDelay 50 = .ok (.getfield 21, 3) := by decide +kernel
theorem dX2_setDelay_53 : decode cX2_setDelay 53 = .ok (.invokevirtual 40, 3) := by decide +kernel
theorem dX2_setDelay_56 : decode cX2_setDelay 56 = .ok (.iload_n 3, 1) := by decide +kernel
theorem dX2_setDelay_57 : decode cX2_setDelay 57 = .ok (.ireturn, 1) := by decide +kernel
theorem dX2_operationCount_0 : decode cX2_operationCount 0 = .ok (.aload_n 0, 1) := by decide +kernel
theorem dX2_operationCount_1 : decode cX2_operationCount 1 = .ok (.getfield 10, 3) := by decide +kernel
theorem dX2_operationCount_4 : decode cX2_operationCount 4 = .ok (.getfield 51, 3) := by decide +kernel
theorem dX2_operationCount_7 : decode cX2_operationCount 7 = .ok (.ireturn, 1) := by decide +kernel
theorem dX2_dependenceCount_0 : decode cX2_dependenceCount 0 = .ok (.aload_n 0, 1) := by decide +kernel
theorem dX2_dependenceCount_1 : decode cX2_dependenceCount 1 = .ok (.getfield 10, 3) := by decide +kernel
theorem dX2_dependenceCount_4 : decode cX2_dependenceCount 4 = .ok (.getfield 72, 3) := by decide +kernel
theorem dX2_dependenceCount_7 : decode cX2_dependenceCount 7 = .ok (.ireturn, 1) := by decide +kernel
set_option maxRecDepth 20000 in
theorem ggX2_resourceBound_X0_leastIntervalOfResources : GoodIn wsX2_resourceBound wsX0_leastIntervalOfResources := goodIn_r _ [6, 7, 8, 9, 10, 11, 12, 13, 14, 5, 15, 16, 17, 18, 22, 23, 24, 25, 26, 27, 28, 29, 30, 31] (by decide +kernel) (by decide +kernel)
set_option maxRecDepth 20000 in
theorem gX2_resourceBound_X0_leastIntervalOfResources : GoodIn wsX2_resourceBound (wsV RX2 89 RX0 yX0_leastIntervalOfResources wsX0_leastIntervalOfResources) := goodIn_app (goodIn_of _ (by decide +kernel)) ggX2_resourceBound_X0_leastIntervalOfResources
theorem dX2_resourceBound_0 : decode cX2_resourceBound 0 = .ok (.aload_n 0, 1) := by decide +kernel
theorem dX2_resourceBound_1 : decode cX2_resourceBound 1 = .ok (.getfield 10, 3) := by decide +kernel
theorem dX2_resourceBound_4 : decode cX2_resourceBound 4 = .ok (.invokevirtual 89, 3) := by decide +kernel
theorem dX2_resourceBound_7 : decode cX2_resourceBound 7 = .ok (.ireturn, 1) := by decide +kernel
set_option maxRecDepth 20000 in
theorem ggX2_recurrenceBound_X0_leastIntervalOfRecurrences : GoodIn wsX2_recurrenceBound wsX0_leastIntervalOfRecurrences := goodIn_r _ [6, 7, 8, 9, 5, 10, 11, 12, 13, 14, 15, 16, 17, 18, 19, 20, 21, 22, 23, 24, 25, 29, 30, 31, 32, 33, 34, 35, 36, 37, 38] (by decide +kernel) (by decide +kernel)
set_option maxRecDepth 20000 in
theorem gX2_recurrenceBound_X0_leastIntervalOfRecurrences : GoodIn wsX2_recurrenceBound (wsV RX2 93 RX0 yX0_leastIntervalOfRecurrences wsX0_leastIntervalOfRecurrences) := goodIn_app (goodIn_of _ (by decide +kernel)) ggX2_recurrenceBound_X0_leastIntervalOfRecurrences
theorem dX2_recurrenceBound_0 : decode cX2_recurrenceBound 0 = .ok (.aload_n 0, 1) := by decide +kernel
theorem dX2_recurrenceBound_1 : decode cX2_recurrenceBound 1 = .ok (.getfield 10, 3) := by decide +kernel
theorem dX2_recurrenceBound_4 : decode cX2_recurrenceBound 4 = .ok (.invokevirtual 93, 3) := by decide +kernel
theorem dX2_recurrenceBound_7 : decode cX2_recurrenceBound 7 = .ok (.ireturn, 1) := by decide +kernel
set_option maxRecDepth 20000 in
theorem ggX2_height_X2_requireOperation : GoodIn wsX2_height wsX2_requireOperation := goodIn_ca (goodIn_r _ [9, 10, 11, 3, 12, 38, 39, 40, 41, 42, 43, 44, 45, 46, 47, 48, 49, 50] (by decide +kernel) (by decide +kernel)) (goodIn_sub (fun _ h => List.mem_cons_of_mem _ (List.mem_append_right _ h)) (by decide +kernel))
set_option maxRecDepth 20000 in
theorem gX2_height_X2_requireOperation : GoodIn wsX2_height (wsV RX2 64 RX2 yX2_requireOperation wsX2_requireOperation) := goodIn_app (goodIn_of _ (by decide +kernel)) ggX2_height_X2_requireOperation
set_option maxRecDepth 20000 in
theorem ggX2_height_X0_leastIntervalOfRecurrences : GoodIn wsX2_height wsX0_leastIntervalOfRecurrences := goodIn_r _ [17, 18, 19, 20, 16, 21, 22, 23, 24, 25, 26, 27, 28, 29, 30, 31, 32, 33, 34, 35, 36, 41, 42, 43, 44, 45, 46, 47, 48, 49, 50] (by decide +kernel) (by decide +kernel)
set_option maxRecDepth 20000 in
theorem gX2_height_X0_leastIntervalOfRecurrences : GoodIn wsX2_height (wsV RX2 93 RX0 yX0_leastIntervalOfRecurrences wsX0_leastIntervalOfRecurrences) := goodIn_app (goodIn_of _ (by decide +kernel)) ggX2_height_X0_leastIntervalOfRecurrences
set_option maxRecDepth 20000 in
theorem ggX2_height_X0_findHeights : GoodIn wsX2_height wsX0_findHeights := goodIn_r _ [21, 22, 23, 24, 25, 26, 27, 28, 29, 30, 16, 31, 32, 33, 34, 35, 36, 41, 42, 43, 44, 45, 46, 47, 48, 49, 50] (by decide +kernel) (by decide +kernel)
set_option maxRecDepth 20000 in
theorem gX2_height_X0_findHeights : GoodIn wsX2_height (wsV RX2 98 RX0 yX0_findHeights wsX0_findHeights) := goodIn_app (goodIn_of _ (by decide +kernel)) ggX2_height_X0_findHeights
theorem dX2_height_0 : decode cX2_height 0 = .ok (.aload_n 0, 1) := by decide +kernel
theorem dX2_height_1 : decode cX2_height 1 = .ok (.iload_n 1, 1) := by decide +kernel
theorem dX2_height_2 : decode cX2_height 2 = .ok (.invokevirtual 64, 3) := by decide +kernel
theorem dX2_height_5 : decode cX2_height 5 = .ok (.aload_n 0, 1) := by decide +kernel
theorem dX2_height_6 : decode cX2_height 6 = .ok (.getfield 10, 3) := by decide +kernel
theorem dX2_height_9 : decode cX2_height 9 = .ok (.invokevirtual 93, 3) := by decide +kernel
theorem dX2_height_12 : decode cX2_height 12 = .ok (.istore_n 3, 1) := by decide +kernel
theorem dX2_height_13 : decode cX2_height 13 = .ok (.iload_n 3, 1) := by decide +kernel
theorem dX2_height_14 : decode cX2_height 14 = .ok (.iconst (-1), 1) := by decide +kernel
theorem dX2_height_15 : decode cX2_height 15 = .ok (.if_icmp .eq 15, 3) := by decide +kernel
theorem dX2_height_18 : decode cX2_height 18 = .ok (.iload_n 2, 1) := by decide +kernel
theorem dX2_height_19 : decode cX2_height 19 = .ok (.iload_n 3, 1) := by decide +kernel
theorem dX2_height_20 : decode cX2_height 20 = .ok (.if_icmp .lt 10, 3) := by decide +kernel
theorem dX2_height_23 : decode cX2_height 23 = .ok (.iload_n 2, 1) := by decide +kernel
theorem dX2_height_24 : decode cX2_height 24 = .ok (.sipush 200, 3) := by decide +kernel
theorem dX2_height_27 : decode cX2_height 27 = .ok (.if_icmp .le 13, 3) := by decide +kernel
theorem dX2_height_30 : decode cX2_height 30 = .ok (.new 29, 3) := by decide +kernel
theorem dX2_height_33 : decode cX2_height 33 = .ok (.dup, 1) := by decide +kernel
theorem dX2_height_34 : decode cX2_height 34 = .ok (.ldc 96, 2) := by decide +kernel
theorem dX2_height_36 : decode cX2_height 36 = .ok (.invokespecial 33, 3) := by decide +kernel
theorem dX2_height_39 : decode cX2_height 39 = .ok (.athrow, 1) := by decide +kernel
theorem dX2_height_40 : decode cX2_height 40 = .ok (.aload_n 0, 1) := by decide +kernel
theorem dX2_height_41 : decode cX2_height 41 = .ok (.getfield 10, 3) := by decide +kernel
theorem dX2_height_44 : decode cX2_height 44 = .ok (.iload_n 2, 1) := by decide +kernel
theorem dX2_height_45 : decode cX2_height 45 = .ok (.invokevirtual 98, 3) := by decide +kernel
theorem dX2_height_48 : decode cX2_height 48 = .ok (.pop, 1) := by decide +kernel
theorem dX2_height_49 : decode cX2_height 49 = .ok (.aload_n 0, 1) := by decide +kernel
theorem dX2_height_50 : decode cX2_height 50 = .ok (.getfield 10, 3) := by decide +kernel
theorem dX2_height_53 : decode cX2_height 53 = .ok (.getfield 101, 3) := by decide +kernel
theorem dX2_height_56 : decode cX2_height 56 = .ok (.iload_n 1, 1) := by decide +kernel
theorem dX2_height_57 : decode cX2_height 57 = .ok (.iaload, 1) := by decide +kernel
theorem dX2_height_58 : decode cX2_height 58 = .ok (.ireturn, 1) := by decide +kernel
set_option maxRecDepth 20000 in
theorem ggX2_schedule_X1_drop : GoodIn wsX2_schedule wsX1_drop := goodIn_r _ [14, 15, 108, 109, 110, 111, 112] (by decide +kernel) (by decide +kernel)
set_option maxRecDepth 20000 in
theorem gX2_schedule_X1_drop : GoodIn wsX2_schedule (wsV RX2 40 RX1 yX1_drop wsX1_drop) := goodIn_app (goodIn_of _ (by decide +kernel)) ggX2_schedule_X1_drop
set_option maxRecDepth 20000 in
theorem ggX2_schedule_X0_leastIntervalOfRecurrences : GoodIn wsX2_schedule wsX0_leastIntervalOfRecurrences := goodIn_r _ [20, 21, 22, 23, 19, 24, 25, 26, 27, 28, 29, 30, 31, 32, 33, 34, 35, 36, 37, 38, 39, 113, 114, 115, 116, 117, 118, 119, 120, 121, 122] (by decide +kernel) (by decide +kernel)
set_option maxRecDepth 20000 in
theorem gX2_schedule_X0_leastIntervalOfRecurrences : GoodIn wsX2_schedule (wsV RX2 93 RX0 yX0_leastIntervalOfRecurrences wsX0_leastIntervalOfRecurrences) := goodIn_app (goodIn_of _ (by decide +kernel)) ggX2_schedule_X0_leastIntervalOfRecurrences
set_option maxRecDepth 20000 in
theorem ggX2_schedule_X0_leastIntervalOfResources : GoodIn wsX2_schedule wsX0_leastIntervalOfResources := goodIn_r _ [43, 44, 45, 7, 8, 9, 46, 47, 48, 19, 49, 26, 50, 51, 113, 114, 115, 116, 117, 118, 119, 120, 121, 122] (by decide +kernel) (by decide +kernel)
set_option maxRecDepth 20000 in
theorem gX2_schedule_X0_leastIntervalOfResources : GoodIn wsX2_schedule (wsV RX2 89 RX0 yX0_leastIntervalOfResources wsX0_leastIntervalOfResources) := goodIn_app (goodIn_of _ (by decide +kernel)) ggX2_schedule_X0_leastIntervalOfResources
set_option maxRecDepth 20000 in
theorem ggX2_schedule_X1_attempt : GoodIn wsX2_schedule wsX1_attempt := goodIn_r _ [55, 15, 56, 57, 58, 59, 60, 22, 23, 19, 24, 25, 26, 27, 28, 29, 30, 31, 32, 33, 34, 35, 36, 37, 38, 39, 61, 62, 63, 64, 13, 65, 66, 67, 68, 69, 70, 71, 72, 8, 73, 74, 75, 76, 77, 78, 79, 80, 81, 82, 83, 7, 9, 84, 85, 86, 87, 88, 89, 90, 91, 92, 93, 94, 95, 96, 97, 98, 99, 100, 101, 102, 103, 104, 11, 12, 14, 108, 109, 110, 111, 112, 113, 114, 115, 116, 117, 118, 119, 120, 121, 122] (by decide +kernel) (by decide +kernel)
set_option maxRecDepth 20000 in
theorem gX2_schedule_X1_attempt : GoodIn wsX2_schedule (wsV RX2 114 RX1 yX1_attempt wsX1_attempt) := goodIn_app (goodIn_of _ (by decide +kernel)) ggX2_schedule_X1_attempt
theorem dX2_schedule_0 : decode cX2_schedule 0 = .ok (.iload_n 1, 1) := by decide +kernel
theorem dX2_schedule_1 : decode cX2_schedule 1 = .ok (.iconst 1, 1) := by decide +kernel
theorem dX2_schedule_2 : decode cX2_schedule 2 = .ok (.if_icmp .lt 10, 3) := by decide +kernel
theorem dX2_schedule_5 : decode cX2_schedule 5 = .ok (.iload_n 1, 1) := by decide +kernel
theorem dX2_schedule_6 : decode cX2_schedule 6 = .ok (.sipush 200, 3) := by decide +kernel
theorem dX2_schedule_9 : decode cX2_schedule 9 = .ok (.if_icmp .le 13, 3) := by decide +kernel
theorem dX2_schedule_12 : decode cX2_schedule 12 = .ok (.new 29, 3) := by decide +kernel
theorem dX2_schedule_15 : decode cX2_schedule 15 = .ok (.dup, 1) := by decide +kernel
theorem dX2_schedule_16 : decode cX2_schedule 16 = .ok (.ldc 104, 2) := by decide +kernel
theorem dX2_schedule_18 : decode cX2_schedule 18 = .ok (.invokespecial 33, 3) := by decide +kernel
theorem dX2_schedule_21 : decode cX2_schedule 21 = .ok (.athrow, 1) := by decide +kernel
theorem dX2_schedule_22 : decode cX2_schedule 22 = .ok (.aload_n 0, 1) := by decide +kernel
theorem dX2_schedule_23 : decode cX2_schedule 23 = .ok (.getfield 21, 3) := by decide +kernel
theorem dX2_schedule_26 : decode cX2_schedule 26 = .ok (.invokevirtual 40, 3) := by decide +kernel
theorem dX2_schedule_29 : decode cX2_schedule 29 = .ok (.aload_n 0, 1) := by decide +kernel
theorem dX2_schedule_30 : decode cX2_schedule 30 = .ok (.iconst 0, 1) := by decide +kernel
theorem dX2_schedule_31 : decode cX2_schedule 31 = .ok (.putfield 106, 3) := by decide +kernel
theorem dX2_schedule_34 : decode cX2_schedule 34 = .ok (.aload_n 0, 1) := by decide +kernel
theorem dX2_schedule_35 : decode cX2_schedule 35 = .ok (.getfield 10, 3) := by decide +kernel
theorem dX2_schedule_38 : decode cX2_schedule 38 = .ok (.invokevirtual 93, 3) := by decide +kernel
theorem dX2_schedule_41 : decode cX2_schedule 41 = .ok (.istore_n 2, 1) := by decide +kernel
theorem dX2_schedule_42 : decode cX2_schedule 42 = .ok (.iload_n 2, 1) := by decide +kernel
theorem dX2_schedule_43 : decode cX2_schedule 43 = .ok (.iconst (-1), 1) := by decide +kernel
theorem dX2_schedule_44 : decode cX2_schedule 44 = .ok (.if_icmp .ne 5, 3) := by decide +kernel
theorem dX2_schedule_47 : decode cX2_schedule 47 = .ok (.iconst (-1), 1) := by decide +kernel
theorem dX2_schedule_48 : decode cX2_schedule 48 = .ok (.ireturn, 1) := by decide +kernel
theorem dX2_schedule_49 : decode cX2_schedule 49 = .ok (.iload_n 2, 1) := by decide +kernel
theorem dX2_schedule_50 : decode cX2_schedule 50 = .ok (.aload_n 0, 1) := by decide +kernel
theorem dX2_schedule_51 : decode cX2_schedule 51 = .ok (.getfield 10, 3) := by decide +kernel
theorem dX2_schedule_54 : decode cX2_schedule 54 = .ok (.invokevirtual 89, 3) := by decide +kernel
theorem dX2_schedule_57 : decode cX2_schedule 57 = .ok (.invokestatic 109, 3) := by decide +kernel
theorem dX2_schedule_60 : decode cX2_schedule 60 = .ok (.istore_n 3, 1) := by decide +kernel
theorem dX2_schedule_61 : decode cX2_schedule 61 = .ok (.iload_n 3, 1) := by decide +kernel
theorem dX2_schedule_62 : decode cX2_schedule 62 = .ok (.istore 4, 2) := by decide +kernel
theorem dX2_schedule_64 : decode cX2_schedule 64 = .ok (.iload 4, 2) := by decide +kernel
theorem dX2_schedule_66 : decode cX2_schedule 66 = .ok (.iload_n 1, 1) := by decide +kernel
theorem dX2_schedule_67 : decode cX2_schedule 67 = .ok (.if_icmp .gt 34, 3) := by decide +kernel
theorem dX2_schedule_70 : decode cX2_schedule 70 = .ok (.aload_n 0, 1) := by decide +kernel
theorem dX2_schedule_71 : decode cX2_schedule 71 = .ok (.dup, 1) := by decide +kernel
theorem dX2_schedule_72 : decode cX2_schedule 72 = .ok (.getfield 106, 3) := by decide +kernel
theorem dX2_schedule_75 : decode cX2_schedule 75 = .ok (.iconst 1, 1) := by decide +kernel
theorem dX2_schedule_76 : decode cX2_schedule 76 = .ok (.iadd, 1) := by decide +kernel
theorem dX2_schedule_77 : decode cX2_schedule 77 = .ok (.putfield 106, 3) := by decide +kernel
theorem dX2_schedule_80 : decode cX2_schedule 80 = .ok (.aload_n 0, 1) := by decide +kernel
theorem dX2_schedule_81 : decode cX2_schedule 81 = .ok (.getfield 21, 3) := by decide +kernel
theorem dX2_schedule_84 : decode cX2_schedule 84 = .ok (.iload 4, 2) := by decide +kernel
theorem dX2_schedule_86 : decode cX2_schedule 86 = .ok (.invokevirtual 114, 3) := by decide +kernel
theorem dX2_schedule_89 : decode cX2_schedule 89 = .ok (.ifCond .eq 6, 3) := by decide +kernel
theorem dX2_schedule_92 : decode cX2_schedule 92 = .ok (.iload 4, 2) := by decide +kernel
theorem dX2_schedule_94 : decode cX2_schedule 94 = .ok (.ireturn, 1) := by decide +kernel
theorem dX2_schedule_95 : decode cX2_schedule 95 = .ok (.iinc 4 1, 3) := by decide +kernel
theorem dX2_schedule_98 : decode cX2_schedule 98 = .ok (.goto (-34), 3) := by decide +kernel
theorem dX2_schedule_101 : decode cX2_schedule 101 = .ok (.iconst (-1), 1) := by decide +kernel
theorem dX2_schedule_102 : decode cX2_schedule 102 = .ok (.ireturn, 1) := by decide +kernel
theorem dX2_attempts_0 : decode cX2_attempts 0 = .ok (.aload_n 0, 1) := by decide +kernel
theorem dX2_attempts_1 : decode cX2_attempts 1 = .ok (.getfield 106, 3) := by decide +kernel
theorem dX2_attempts_4 : decode cX2_attempts 4 = .ok (.ireturn, 1) := by decide +kernel
theorem dX2_hasSchedule_0 : decode cX2_hasSchedule 0 = .ok (.aload_n 0, 1) := by decide +kernel
theorem dX2_hasSchedule_1 : decode cX2_hasSchedule 1 = .ok (.getfield 21, 3) := by decide +kernel
theorem dX2_hasSchedule_4 : decode cX2_hasSchedule 4 = .ok (.getfield 117, 3) := by decide +kernel
theorem dX2_hasSchedule_7 : decode cX2_hasSchedule 7 = .ok (.ifCond .le 7, 3) := by decide +kernel
theorem dX2_hasSchedule_10 : decode cX2_hasSchedule 10 = .ok (.iconst 1, 1) := by decide +kernel
theorem dX2_hasSchedule_11 : decode cX2_hasSchedule 11 = .ok (.goto 4, 3) := by decide +kernel
theorem dX2_hasSchedule_14 : decode cX2_hasSchedule 14 = .ok (.iconst 0, 1) := by decide +kernel
theorem dX2_hasSchedule_15 : decode cX2_hasSchedule 15 = .ok (.ireturn, 1) := by decide +kernel
set_option maxRecDepth 20000 in
theorem ggX2_interval_X2_requireSchedule : GoodIn wsX2_interval wsX2_requireSchedule := goodIn_ca (goodIn_r _ [7, 8, 9, 1, 2, 10, 11, 12, 13, 14, 15, 16, 17] (by decide +kernel) (by decide +kernel)) (goodIn_sub (fun _ h => List.mem_cons_of_mem _ (List.mem_append_right _ h)) (by decide +kernel))
set_option maxRecDepth 20000 in
theorem gX2_interval_X2_requireSchedule : GoodIn wsX2_interval (wsV RX2 120 RX2 yX2_requireSchedule wsX2_requireSchedule) := goodIn_app (goodIn_of _ (by decide +kernel)) ggX2_interval_X2_requireSchedule
theorem dX2_interval_0 : decode cX2_interval 0 = .ok (.aload_n 0, 1) := by decide +kernel
theorem dX2_interval_1 : decode cX2_interval 1 = .ok (.invokevirtual 120, 3) := by decide +kernel
theorem dX2_interval_4 : decode cX2_interval 4 = .ok (.aload_n 0, 1) := by decide +kernel
theorem dX2_interval_5 : decode cX2_interval 5 = .ok (.getfield 21, 3) := by decide +kernel
theorem dX2_interval_8 : decode cX2_interval 8 = .ok (.getfield 117, 3) := by decide +kernel
theorem dX2_interval_11 : decode cX2_interval 11 = .ok (.ireturn, 1) := by decide +kernel
set_option maxRecDepth 20000 in
theorem ggX2_time_X2_requireOperation : GoodIn wsX2_time wsX2_requireOperation := goodIn_ca (goodIn_r _ [7, 8, 9, 10, 11, 19, 20, 21, 27, 28, 29, 30, 31, 32, 33, 34, 35, 36] (by decide +kernel) (by decide +kernel)) (goodIn_sub (fun _ h => List.mem_cons_of_mem _ (List.mem_append_left _ (List.mem_append_right _ h))) (by decide +kernel))
set_option maxRecDepth 20000 in
theorem gX2_time_X2_requireOperation : GoodIn wsX2_time (wsV RX2 64 RX2 yX2_requireOperation wsX2_requireOperation) := goodIn_app (goodIn_of _ (by decide +kernel)) ggX2_time_X2_requireOperation
set_option maxRecDepth 20000 in
theorem ggX2_time_X2_requireSchedule : GoodIn wsX2_time wsX2_requireSchedule := goodIn_ca (goodIn_r _ [15, 16, 17, 1, 18, 19, 20, 21, 22, 23, 24, 25, 26] (by decide +kernel) (by decide +kernel)) (goodIn_sub (fun _ h => List.mem_cons_of_mem _ (List.mem_append_right _ h)) (by decide +kernel))
set_option maxRecDepth 20000 in
theorem gX2_time_X2_requireSchedule : GoodIn wsX2_time (wsV RX2 120 RX2 yX2_requireSchedule wsX2_requireSchedule) := goodIn_app (goodIn_of _ (by decide +kernel)) ggX2_time_X2_requireSchedule
theorem dX2_time_0 : decode cX2_time 0 = .ok (.aload_n 0, 1) := by decide +kernel
theorem dX2_time_1 : decode cX2_time 1 = .ok (.iload_n 1, 1) := by decide +kernel
theorem dX2_time_2 : decode cX2_time 2 = .ok (.invokevirtual 64, 3) := by decide +kernel
theorem dX2_time_5 : decode cX2_time 5 = .ok (.aload_n 0, 1) := by decide +kernel
theorem dX2_time_6 : decode cX2_time 6 = .ok (.invokevirtual 120, 3) := by decide +kernel
theorem dX2_time_9 : decode cX2_time 9 = .ok (.aload_n 0, 1) := by decide +kernel
theorem dX2_time_10 : decode cX2_time 10 = .ok (.getfield 21, 3) := by decide +kernel
theorem dX2_time_13 : decode cX2_time 13 = .ok (.getfield 123, 3) := by decide +kernel
theorem dX2_time_16 : decode cX2_time 16 = .ok (.iload_n 1, 1) := by decide +kernel
theorem dX2_time_17 : decode cX2_time 17 = .ok (.iaload, 1) := by decide +kernel
theorem dX2_time_18 : decode cX2_time 18 = .ok (.ireturn, 1) := by decide +kernel
set_option maxRecDepth 20000 in
theorem ggX2_move_X2_requireOperation : GoodIn wsX2_move wsX2_requireOperation := goodIn_ca (goodIn_r _ [8, 9, 10, 11, 12, 69, 70, 71, 72, 73, 74, 75, 76, 77, 78, 79, 80, 81] (by decide +kernel) (by decide +kernel)) (goodIn_sub (fun _ h => List.mem_cons_of_mem _ (List.mem_append_left _ (List.mem_append_right _ h))) (by decide +kernel))
set_option maxRecDepth 20000 in
theorem gX2_move_X2_requireOperation : GoodIn wsX2_move (wsV RX2 64 RX2 yX2_requireOperation wsX2_requireOperation) := goodIn_app (goodIn_of _ (by decide +kernel)) ggX2_move_X2_requireOperation
set_option maxRecDepth 20000 in
theorem ggX2_move_X2_requireSchedule : GoodIn wsX2_move wsX2_requireSchedule := goodIn_ca (goodIn_r _ [16, 17, 18, 3, 19, 69, 70, 71, 82, 83, 84, 85, 86] (by decide +kernel) (by decide +kernel)) (goodIn_sub (fun _ h => List.mem_cons_of_mem _ (List.mem_append_right _ h)) (by decide +kernel))
set_option maxRecDepth 20000 in
theorem gX2_move_X2_requireSchedule : GoodIn wsX2_move (wsV RX2 120 RX2 yX2_requireSchedule wsX2_requireSchedule) := goodIn_app (goodIn_of _ (by decide +kernel)) ggX2_move_X2_requireSchedule
set_option maxRecDepth 20000 in
theorem ggX2_move_X1_replace : GoodIn wsX2_move wsX1_replace := goodIn_r _ [24, 25, 26, 27, 28, 23, 29, 30, 31, 32, 33, 34, 35, 36, 37, 38, 39, 40, 41, 42, 43, 44, 45, 46, 47, 48, 49, 50, 51, 52, 53, 54, 55, 56, 57, 58, 59, 60, 61, 62, 63, 64, 65, 66, 67, 68, 82, 83, 84, 85, 86, 72, 73, 74, 75, 76, 77, 78, 79, 80, 81] (by decide +kernel) (by decide +kernel)
set_option maxRecDepth 20000 in
theorem gX2_move_X1_replace : GoodIn wsX2_move (wsV RX2 128 RX1 yX1_replace wsX1_replace) := goodIn_app (goodIn_of _ (by decide +kernel)) ggX2_move_X1_replace
theorem dX2_move_0 : decode cX2_move 0 = .ok (.aload_n 0, 1) := by decide +kernel
theorem dX2_move_1 : decode cX2_move 1 = .ok (.iload_n 1, 1) := by decide +kernel
theorem dX2_move_2 : decode cX2_move 2 = .ok (.invokevirtual 64, 3) := by decide +kernel
theorem dX2_move_5 : decode cX2_move 5 = .ok (.iload_n 2, 1) := by decide +kernel
theorem dX2_move_6 : decode cX2_move 6 = .ok (.ifCond .lt 10, 3) := by decide +kernel
theorem dX2_move_9 : decode cX2_move 9 = .ok (.iload_n 2, 1) := by decide +kernel
theorem dX2_move_10 : decode cX2_move 10 = .ok (.sipush 1000, 3) := by decide +kernel
theorem dX2_move_13 : decode cX2_move 13 = .ok (.if_icmp .le 13, 3) := by decide +kernel
theorem dX2_move_16 : decode cX2_move 16 = .ok (.new 29, 3) := by decide +kernel
theorem dX2_move_19 : decode cX2_move 19 = .ok (.dup, 1) := by decide +kernel
theorem dX2_move_20 : decode cX2_move 20 = .ok (.ldc 126, 2) := by decide +kernel
theorem dX2_move_22 : decode cX2_move 22 = .ok (.invokespecial 33, 3) := by decide +kernel
theorem dX2_move_25 : decode cX2_move 25 = .ok (.athrow, 1) := by decide +kernel
theorem dX2_move_26 : decode cX2_move 26 = .ok (.aload_n 0, 1) := by decide +kernel
theorem dX2_move_27 : decode cX2_move 27 = .ok (.invokevirtual 120, 3) := by decide +kernel
theorem dX2_move_30 : decode cX2_move 30 = .ok (.aload_n 0, 1) := by decide +kernel
theorem dX2_move_31 : decode cX2_move 31 = .ok (.getfield 21, 3) := by decide +kernel
theorem dX2_move_34 : decode cX2_move 34 = .ok (.iload_n 1, 1) := by decide +kernel
theorem dX2_move_35 : decode cX2_move 35 = .ok (.iload_n 2, 1) := by decide +kernel
theorem dX2_move_36 : decode cX2_move 36 = .ok (.invokevirtual 128, 3) := by decide +kernel
theorem dX2_move_39 : decode cX2_move 39 = .ok (.ireturn, 1) := by decide +kernel
set_option maxRecDepth 20000 in
theorem ggX2_freedom_X2_requireOperation : GoodIn wsX2_freedom wsX2_requireOperation := goodIn_ca (goodIn_r _ [6, 7, 8, 9, 10, 67, 68, 69, 70, 71, 72, 73, 74, 75, 76, 77, 78, 79] (by decide +kernel) (by decide +kernel)) (goodIn_sub (fun _ h => List.mem_cons_of_mem _ (List.mem_append_left _ (List.mem_append_right _ h))) (by decide +kernel))
set_option maxRecDepth 20000 in
theorem gX2_freedom_X2_requireOperation : GoodIn wsX2_freedom (wsV RX2 64 RX2 yX2_requireOperation wsX2_requireOperation) := goodIn_app (goodIn_of _ (by decide +kernel)) ggX2_freedom_X2_requireOperation
set_option maxRecDepth 20000 in
theorem ggX2_freedom_X2_requireSchedule : GoodIn wsX2_freedom wsX2_requireSchedule := goodIn_ca (goodIn_r _ [14, 15, 16, 1, 17, 67, 68, 69, 80, 81, 82, 83, 84] (by decide +kernel) (by decide +kernel)) (goodIn_sub (fun _ h => List.mem_cons_of_mem _ (List.mem_append_right _ h)) (by decide +kernel))
set_option maxRecDepth 20000 in
theorem gX2_freedom_X2_requireSchedule : GoodIn wsX2_freedom (wsV RX2 120 RX2 yX2_requireSchedule wsX2_requireSchedule) := goodIn_app (goodIn_of _ (by decide +kernel)) ggX2_freedom_X2_requireSchedule
set_option maxRecDepth 20000 in
theorem ggX2_freedom_X1_countPlaces : GoodIn wsX2_freedom wsX1_countPlaces := goodIn_r _ [22, 23, 24, 25, 26, 27, 28, 29, 30, 21, 31, 32, 33, 34, 35, 36, 37, 38, 39, 40, 41, 42, 43, 44, 45, 46, 47, 48, 49, 50, 51, 52, 53, 54, 55, 56, 57, 58, 59, 60, 61, 62, 63, 64, 65, 66, 80, 81, 82, 83, 84, 70, 71, 72, 73, 74, 75, 76, 77, 78, 79] (by decide +kernel) (by decide +kernel)
set_option maxRecDepth 20000 in
theorem gX2_freedom_X1_countPlaces : GoodIn wsX2_freedom (wsV RX2 132 RX1 yX1_countPlaces wsX1_countPlaces) := goodIn_app (goodIn_of _ (by decide +kernel)) ggX2_freedom_X1_countPlaces
theorem dX2_freedom_0 : decode cX2_freedom 0 = .ok (.aload_n 0, 1) := by decide +kernel
theorem dX2_freedom_1 : decode cX2_freedom 1 = .ok (.iload_n 1, 1) := by decide +kernel
theorem dX2_freedom_2 : decode cX2_freedom 2 = .ok (.invokevirtual 64, 3) := by decide +kernel
theorem dX2_freedom_5 : decode cX2_freedom 5 = .ok (.aload_n 0, 1) := by decide +kernel
theorem dX2_freedom_6 : decode cX2_freedom 6 = .ok (.invokevirtual 120, 3) := by decide +kernel
theorem dX2_freedom_9 : decode cX2_freedom 9 = .ok (.aload_n 0, 1) := by decide +kernel
theorem dX2_freedom_10 : decode cX2_freedom 10 = .ok (.getfield 21, 3) := by decide +kernel
theorem dX2_freedom_13 : decode cX2_freedom 13 = .ok (.iload_n 1, 1) := by decide +kernel
theorem dX2_freedom_14 : decode cX2_freedom 14 = .ok (.invokevirtual 132, 3) := by decide +kernel
theorem dX2_freedom_17 : decode cX2_freedom 17 = .ok (.ireturn, 1) := by decide +kernel
set_option maxRecDepth 20000 in
theorem ggX2_stages_X2_requireSchedule : GoodIn wsX2_stages wsX2_requireSchedule := goodIn_ca (goodIn_r _ [6, 7, 8, 1, 9, 27, 28, 29, 30, 31, 32, 33, 34] (by decide +kernel) (by decide +kernel)) (goodIn_sub (fun _ h => List.mem_cons_of_mem _ (List.mem_append_right _ h)) (by decide +kernel))
set_option maxRecDepth 20000 in
theorem gX2_stages_X2_requireSchedule : GoodIn wsX2_stages (wsV RX2 120 RX2 yX2_requireSchedule wsX2_requireSchedule) := goodIn_app (goodIn_of _ (by decide +kernel)) ggX2_stages_X2_requireSchedule
set_option maxRecDepth 20000 in
theorem ggX2_stages_X1_countStages : GoodIn wsX2_stages wsX1_countStages := goodIn_r _ [14, 15, 16, 17, 18, 19, 20, 13, 21, 22, 23, 24, 25, 26, 30, 31, 32, 33, 34, 35, 36, 37, 38, 39, 40, 41, 42, 43, 44] (by decide +kernel) (by decide +kernel)
set_option maxRecDepth 20000 in
theorem gX2_stages_X1_countStages : GoodIn wsX2_stages (wsV RX2 136 RX1 yX1_countStages wsX1_countStages) := goodIn_app (goodIn_of _ (by decide +kernel)) ggX2_stages_X1_countStages
theorem dX2_stages_0 : decode cX2_stages 0 = .ok (.aload_n 0, 1) := by decide +kernel
theorem dX2_stages_1 : decode cX2_stages 1 = .ok (.invokevirtual 120, 3) := by decide +kernel
theorem dX2_stages_4 : decode cX2_stages 4 = .ok (.aload_n 0, 1) := by decide +kernel
theorem dX2_stages_5 : decode cX2_stages 5 = .ok (.getfield 21, 3) := by decide +kernel
theorem dX2_stages_8 : decode cX2_stages 8 = .ok (.invokevirtual 136, 3) := by decide +kernel
theorem dX2_stages_11 : decode cX2_stages 11 = .ok (.ireturn, 1) := by decide +kernel
set_option maxRecDepth 20000 in
theorem ggX2_taken_X2_requireKind : GoodIn wsX2_taken wsX2_requireKind := goodIn_ca (goodIn_r _ [6, 7, 8, 9, 10, 5, 11] (by decide +kernel) (by decide +kernel)) (goodIn_sub (fun _ h => List.mem_cons_of_mem _ (List.mem_append_left _ (List.mem_append_left _ (List.mem_append_right _ h)))) (by decide +kernel))
set_option maxRecDepth 20000 in
theorem gX2_taken_X2_requireKind : GoodIn wsX2_taken (va_wsS RX2 25 yX2_requireKind wsX2_requireKind) := goodIn_app (goodIn_of _ (by decide +kernel)) ggX2_taken_X2_requireKind
set_option maxRecDepth 20000 in
theorem ggX2_taken_X2_requireSchedule : GoodIn wsX2_taken wsX2_requireSchedule := goodIn_ca (goodIn_r _ [15, 16, 17, 1, 18, 25, 26, 27, 28, 29, 30, 31, 32] (by decide +kernel) (by decide +kernel)) (goodIn_sub (fun _ h => List.mem_cons_of_mem _ (List.mem_append_left _ (List.mem_append_right _ h))) (by decide +kernel))
set_option maxRecDepth 20000 in
theorem gX2_taken_X2_requireSchedule : GoodIn wsX2_taken (wsV RX2 120 RX2 yX2_requireSchedule wsX2_requireSchedule) := goodIn_app (goodIn_of _ (by decide +kernel)) ggX2_taken_X2_requireSchedule
set_option maxRecDepth 20000 in
theorem ggX2_taken_X2_requireRow : GoodIn wsX2_taken wsX2_requireRow := goodIn_ca (goodIn_r _ [22, 23, 24, 1, 18, 25, 26, 27, 28, 29, 30, 31, 32] (by decide +kernel) (by decide +kernel)) (goodIn_sub (fun _ h => List.mem_cons_of_mem _ (List.mem_append_right _ h)) (by decide +kernel))
set_option maxRecDepth 20000 in
theorem gX2_taken_X2_requireRow : GoodIn wsX2_taken (wsV RX2 139 RX2 yX2_requireRow wsX2_requireRow) := goodIn_app (goodIn_of _ (by decide +kernel)) ggX2_taken_X2_requireRow
theorem dX2_taken_0 : decode cX2_taken 0 = .ok (.iload_n 2, 1) := by decide +kernel
theorem dX2_taken_1 : decode cX2_taken 1 = .ok (.invokestatic 25, 3) := by decide +kernel
theorem dX2_taken_4 : decode cX2_taken 4 = .ok (.aload_n 0, 1) := by decide +kernel
theorem dX2_taken_5 : decode cX2_taken 5 = .ok (.invokevirtual 120, 3) := by decide +kernel
theorem dX2_taken_8 : decode cX2_taken 8 = .ok (.aload_n 0, 1) := by decide +kernel
theorem dX2_taken_9 : decode cX2_taken 9 = .ok (.iload_n 1, 1) := by decide +kernel
theorem dX2_taken_10 : decode cX2_taken 10 = .ok (.invokevirtual 139, 3) := by decide +kernel
theorem dX2_taken_13 : decode cX2_taken 13 = .ok (.aload_n 0, 1) := by decide +kernel
theorem dX2_taken_14 : decode cX2_taken 14 = .ok (.getfield 21, 3) := by decide +kernel
theorem dX2_taken_17 : decode cX2_taken 17 = .ok (.getfield 142, 3) := by decide +kernel
theorem dX2_taken_20 : decode cX2_taken 20 = .ok (.iload_n 2, 1) := by decide +kernel
theorem dX2_taken_21 : decode cX2_taken 21 = .ok (.aaload, 1) := by decide +kernel
theorem dX2_taken_22 : decode cX2_taken 22 = .ok (.iload_n 1, 1) := by decide +kernel
theorem dX2_taken_23 : decode cX2_taken 23 = .ok (.iaload, 1) := by decide +kernel
theorem dX2_taken_24 : decode cX2_taken 24 = .ok (.ireturn, 1) := by decide +kernel
set_option maxRecDepth 20000 in
theorem ggX2_lifetime_X2_requireOperation : GoodIn wsX2_lifetime wsX2_requireOperation := goodIn_ca (goodIn_r _ [7, 8, 9, 10, 11, 40, 41, 42, 48, 49, 50, 51, 52, 53, 54, 55, 56, 57] (by decide +kernel) (by decide +kernel)) (goodIn_sub (fun _ h => List.mem_cons_of_mem _ (List.mem_append_left _ (List.mem_append_right _ h))) (by decide +kernel))
set_option maxRecDepth 20000 in
theorem gX2_lifetime_X2_requireOperation : GoodIn wsX2_lifetime (wsV RX2 64 RX2 yX2_requireOperation wsX2_requireOperation) := goodIn_app (goodIn_of _ (by decide +kernel)) ggX2_lifetime_X2_requireOperation
set_option maxRecDepth 20000 in
theorem ggX2_lifetime_X2_requireSchedule : GoodIn wsX2_lifetime wsX2_requireSchedule := goodIn_ca (goodIn_r _ [15, 16, 17, 1, 18, 40, 41, 42, 43, 44, 45, 46, 47] (by decide +kernel) (by decide +kernel)) (goodIn_sub (fun _ h => List.mem_cons_of_mem _ (List.mem_append_right _ h)) (by decide +kernel))
set_option maxRecDepth 20000 in
theorem gX2_lifetime_X2_requireSchedule : GoodIn wsX2_lifetime (wsV RX2 120 RX2 yX2_requireSchedule wsX2_requireSchedule) := goodIn_app (goodIn_of _ (by decide +kernel)) ggX2_lifetime_X2_requireSchedule
set_option maxRecDepth 20000 in
theorem ggX2_lifetime_X1_findLifetimes : GoodIn wsX2_lifetime wsX1_findLifetimes := goodIn_r _ [23, 24, 25, 26, 27, 28, 29, 30, 31, 32, 33, 34, 35, 36, 37, 38, 39, 43, 44, 45, 46, 47, 48, 49, 50, 51, 52, 53, 54, 55, 56, 57] (by decide +kernel) (by decide +kernel)
set_option maxRecDepth 20000 in
theorem gX2_lifetime_X1_findLifetimes : GoodIn wsX2_lifetime (wsV RX2 146 RX1 yX1_findLifetimes wsX1_findLifetimes) := goodIn_app (goodIn_of _ (by decide +kernel)) ggX2_lifetime_X1_findLifetimes
theorem dX2_lifetime_0 : decode cX2_lifetime 0 = .ok (.aload_n 0, 1) := by decide +kernel
theorem dX2_lifetime_1 : decode cX2_lifetime 1 = .ok (.iload_n 1, 1) := by decide +kernel
theorem dX2_lifetime_2 : decode cX2_lifetime 2 = .ok (.invokevirtual 64, 3) := by decide +kernel
theorem dX2_lifetime_5 : decode cX2_lifetime 5 = .ok (.aload_n 0, 1) := by decide +kernel
theorem dX2_lifetime_6 : decode cX2_lifetime 6 = .ok (.invokevirtual 120, 3) := by decide +kernel
theorem dX2_lifetime_9 : decode cX2_lifetime 9 = .ok (.aload_n 0, 1) := by decide +kernel
theorem dX2_lifetime_10 : decode cX2_lifetime 10 = .ok (.getfield 21, 3) := by decide +kernel
theorem dX2_lifetime_13 : decode cX2_lifetime 13 = .ok (.invokevirtual 146, 3) := by decide +kernel
theorem dX2_lifetime_16 : decode cX2_lifetime 16 = .ok (.aload_n 0, 1) := by decide +kernel
theorem dX2_lifetime_17 : decode cX2_lifetime 17 = .ok (.getfield 21, 3) := by decide +kernel
theorem dX2_lifetime_20 : decode cX2_lifetime 20 = .ok (.getfield 149, 3) := by decide +kernel
theorem dX2_lifetime_23 : decode cX2_lifetime 23 = .ok (.iload_n 1, 1) := by decide +kernel
theorem dX2_lifetime_24 : decode cX2_lifetime 24 = .ok (.iaload, 1) := by decide +kernel
theorem dX2_lifetime_25 : decode cX2_lifetime 25 = .ok (.ireturn, 1) := by decide +kernel
set_option maxRecDepth 20000 in
theorem ggX2_live_X2_requireSchedule : GoodIn wsX2_live wsX2_requireSchedule := goodIn_ca (goodIn_r _ [6, 7, 8, 1, 9, 46, 47, 48, 49, 50, 51, 52, 53] (by decide +kernel) (by decide +kernel)) (goodIn_sub (fun _ h => List.mem_cons_of_mem _ (List.mem_append_left _ (List.mem_append_right _ h))) (by decide +kernel))
set_option maxRecDepth 20000 in
theorem gX2_live_X2_requireSchedule : GoodIn wsX2_live (wsV RX2 120 RX2 yX2_requireSchedule wsX2_requireSchedule) := goodIn_app (goodIn_of _ (by decide +kernel)) ggX2_live_X2_requireSchedule
set_option maxRecDepth 20000 in
theorem ggX2_live_X2_requireRow : GoodIn wsX2_live wsX2_requireRow := goodIn_ca (goodIn_r _ [13, 14, 15, 1, 9, 46, 47, 48, 49, 50, 51, 52, 53] (by decide +kernel) (by decide +kernel)) (goodIn_sub (fun _ h => List.mem_cons_of_mem _ (List.mem_append_right _ h)) (by decide +kernel))
set_option maxRecDepth 20000 in
theorem gX2_live_X2_requireRow : GoodIn wsX2_live (wsV RX2 139 RX2 yX2_requireRow wsX2_requireRow) := goodIn_app (goodIn_of _ (by decide +kernel)) ggX2_live_X2_requireRow
set_option maxRecDepth 20000 in
theorem ggX2_live_X1_findLifetimes : GoodIn wsX2_live wsX1_findLifetimes := goodIn_r _ [20, 21, 22, 23, 24, 25, 26, 27, 28, 29, 30, 31, 32, 33, 34, 35, 36, 49, 50, 51, 52, 53, 54, 55, 56, 57, 58, 59, 60, 61, 62, 63] (by decide +kernel) (by decide +kernel)
set_option maxRecDepth 20000 in
theorem gX2_live_X1_findLifetimes : GoodIn wsX2_live (wsV RX2 146 RX1 yX1_findLifetimes wsX1_findLifetimes) := goodIn_app (goodIn_of _ (by decide +kernel)) ggX2_live_X1_findLifetimes
set_option maxRecDepth 20000 in
theorem ggX2_live_X1_countLive : GoodIn wsX2_live wsX1_countLive := goodIn_r _ [40, 22, 41, 25, 27, 21, 42, 43, 44, 45, 49, 50, 51, 52, 53, 54, 55, 56, 57, 58, 59, 60, 61, 62, 63] (by decide +kernel) (by decide +kernel)
set_option maxRecDepth 20000 in
theorem gX2_live_X1_countLive : GoodIn wsX2_live (wsV RX2 152 RX1 yX1_countLive wsX1_countLive) := goodIn_app (goodIn_of _ (by decide +kernel)) ggX2_live_X1_countLive
theorem dX2_live_0 : decode cX2_live 0 = .ok (.aload_n 0, 1) := by decide +kernel
theorem dX2_live_1 : decode cX2_live 1 = .ok (.invokevirtual 120, 3) := by decide +kernel
theorem dX2_live_4 : decode cX2_live 4 = .ok (.aload_n 0, 1) := by decide +kernel
theorem dX2_live_5 : decode cX2_live 5 = .ok (.iload_n 1, 1) := by decide +kernel
theorem dX2_live_6 : decode cX2_live 6 = .ok (.invokevirtual 139, 3) := by decide +kernel
theorem dX2_live_9 : decode cX2_live 9 = .ok (.aload_n 0, 1) := by decide +kernel
theorem dX2_live_10 : decode cX2_live 10 = .ok (.getfield 21, 3) := by decide +kernel
theorem dX2_live_13 : decode cX2_live 13 = .ok (.invokevirtual 146, 3) := by decide +kernel
theorem dX2_live_16 : decode cX2_live 16 = .ok (.aload_n 0, 1) := by decide +kernel
theorem dX2_live_17 : decode cX2_live 17 = .ok (.getfield 21, 3) := by decide +kernel
theorem dX2_live_20 : decode cX2_live 20 = .ok (.iload_n 1, 1) := by decide +kernel
theorem dX2_live_21 : decode cX2_live 21 = .ok (.invokevirtual 152, 3) := by decide +kernel
theorem dX2_live_24 : decode cX2_live 24 = .ok (.ireturn, 1) := by decide +kernel
set_option maxRecDepth 20000 in
theorem ggX2_registers_X2_requireSchedule : GoodIn wsX2_registers wsX2_requireSchedule := goodIn_ca (goodIn_r _ [11, 12, 13, 1, 2, 41, 42, 43, 44, 45, 46, 47, 48] (by decide +kernel) (by decide +kernel)) (goodIn_sub (fun _ h => List.mem_cons_of_mem _ (List.mem_append_right _ h)) (by decide +kernel))
set_option maxRecDepth 20000 in
theorem gX2_registers_X2_requireSchedule : GoodIn wsX2_registers (wsV RX2 120 RX2 yX2_requireSchedule wsX2_requireSchedule) := goodIn_app (goodIn_of _ (by decide +kernel)) ggX2_registers_X2_requireSchedule
set_option maxRecDepth 20000 in
theorem ggX2_registers_X1_findLifetimes : GoodIn wsX2_registers wsX1_findLifetimes := goodIn_r _ [18, 19, 20, 21, 22, 23, 24, 25, 26, 27, 4, 5, 6, 28, 29, 30, 31, 44, 45, 46, 47, 48, 49, 50, 51, 52, 53, 54, 55, 56, 57, 58] (by decide +kernel) (by decide +kernel)
set_option maxRecDepth 20000 in
theorem gX2_registers_X1_findLifetimes : GoodIn wsX2_registers (wsV RX2 146 RX1 yX1_findLifetimes wsX1_findLifetimes) := goodIn_app (goodIn_of _ (by decide +kernel)) ggX2_registers_X1_findLifetimes
set_option maxRecDepth 20000 in
theorem ggX2_registers_X1_countLive : GoodIn wsX2_registers wsX1_countLive := goodIn_r _ [35, 20, 36, 23, 25, 19, 37, 38, 39, 40, 44, 45, 46, 47, 48, 49, 50, 51, 52, 53, 54, 55, 56, 57, 58] (by decide +kernel) (by decide +kernel)
set_option maxRecDepth 20000 in
theorem gX2_registers_X1_countLive : GoodIn wsX2_registers (wsV RX2 152 RX1 yX1_countLive wsX1_countLive) := goodIn_app (goodIn_of _ (by decide +kernel)) ggX2_registers_X1_countLive
theorem dX2_registers_0 : decode cX2_registers 0 = .ok (.aload_n 0, 1) := by decide +kernel
theorem dX2_registers_1 : decode cX2_registers 1 = .ok (.invokevirtual 120, 3) := by decide +kernel
theorem dX2_registers_4 : decode cX2_registers 4 = .ok (.aload_n 0, 1) := by decide +kernel
theorem dX2_registers_5 : decode cX2_registers 5 = .ok (.getfield 21, 3) := by decide +kernel
theorem dX2_registers_8 : decode cX2_registers 8 = .ok (.invokevirtual 146, 3) := by decide +kernel
theorem dX2_registers_11 : decode cX2_registers 11 = .ok (.iconst 0, 1) := by decide +kernel
theorem dX2_registers_12 : decode cX2_registers 12 = .ok (.istore_n 1, 1) := by decide +kernel
theorem dX2_registers_13 : decode cX2_registers 13 = .ok (.iconst 0, 1) := by decide +kernel
theorem dX2_registers_14 : decode cX2_registers 14 = .ok (.istore_n 2, 1) := by decide +kernel
theorem dX2_registers_15 : decode cX2_registers 15 = .ok (.iload_n 2, 1) := by decide +kernel
theorem dX2_registers_16 : decode cX2_registers 16 = .ok (.aload_n 0, 1) := by decide +kernel
theorem dX2_registers_17 : decode cX2_registers 17 = .ok (.getfield 21, 3) := by decide +kernel
theorem dX2_registers_20 : decode cX2_registers 20 = .ok (.getfield 117, 3) := by decide +kernel
theorem dX2_registers_23 : decode cX2_registers 23 = .ok (.if_icmp .ge 22, 3) := by decide +kernel
theorem dX2_registers_26 : decode cX2_registers 26 = .ok (.iload_n 1, 1) := by decide +kernel
theorem dX2_registers_27 : decode cX2_registers 27 = .ok (.aload_n 0, 1) := by decide +kernel
theorem dX2_registers_28 : decode cX2_registers 28 = .ok (.getfield 21, 3) := by decide +kernel
theorem dX2_registers_31 : decode cX2_registers 31 = .ok (.iload_n 2, 1) := by decide +kernel
theorem dX2_registers_32 : decode cX2_registers 32 = .ok (.invokevirtual 152, 3) := by decide +kernel
theorem dX2_registers_35 : decode cX2_registers 35 = .ok (.invokestatic 109, 3) := by decide +kernel
theorem dX2_registers_38 : decode cX2_registers 38 = .ok (.istore_n 1, 1) := by decide +kernel
theorem dX2_registers_39 : decode cX2_registers 39 = .ok (.iinc 2 1, 3) := by decide +kernel
theorem dX2_registers_42 : decode cX2_registers 42 = .ok (.goto (-27), 3) := by decide +kernel
theorem dX2_registers_45 : decode cX2_registers 45 = .ok (.iload_n 1, 1) := by decide +kernel
theorem dX2_registers_46 : decode cX2_registers 46 = .ok (.ireturn, 1) := by decide +kernel
set_option maxRecDepth 20000 in
theorem ggX2_copies_X2_requireOperation : GoodIn wsX2_copies wsX2_requireOperation := goodIn_ca (goodIn_r _ [6, 7, 8, 9, 10, 43, 44, 45, 46, 47, 48, 49, 50, 51, 52, 53, 54, 55] (by decide +kernel) (by decide +kernel)) (goodIn_sub (fun _ h => List.mem_cons_of_mem _ (List.mem_append_left _ (List.mem_append_right _ h))) (by decide +kernel))
set_option maxRecDepth 20000 in
theorem gX2_copies_X2_requireOperation : GoodIn wsX2_copies (wsV RX2 64 RX2 yX2_requireOperation wsX2_requireOperation) := goodIn_app (goodIn_of _ (by decide +kernel)) ggX2_copies_X2_requireOperation
set_option maxRecDepth 20000 in
theorem ggX2_copies_X2_requireSchedule : GoodIn wsX2_copies wsX2_requireSchedule := goodIn_ca (goodIn_r _ [14, 15, 16, 1, 17, 43, 44, 45, 56, 57, 58, 59, 60] (by decide +kernel) (by decide +kernel)) (goodIn_sub (fun _ h => List.mem_cons_of_mem _ (List.mem_append_right _ h)) (by decide +kernel))
set_option maxRecDepth 20000 in
theorem gX2_copies_X2_requireSchedule : GoodIn wsX2_copies (wsV RX2 120 RX2 yX2_requireSchedule wsX2_requireSchedule) := goodIn_app (goodIn_of _ (by decide +kernel)) ggX2_copies_X2_requireSchedule
set_option maxRecDepth 20000 in
theorem ggX2_copies_X1_findLifetimes : GoodIn wsX2_copies wsX1_findLifetimes := goodIn_r _ [22, 23, 24, 25, 26, 27, 28, 29, 30, 31, 32, 33, 34, 35, 36, 37, 38, 56, 57, 58, 59, 60, 46, 47, 48, 49, 50, 51, 52, 53, 54, 55] (by decide +kernel) (by decide +kernel)
set_option maxRecDepth 20000 in
theorem gX2_copies_X1_findLifetimes : GoodIn wsX2_copies (wsV RX2 146 RX1 yX1_findLifetimes wsX1_findLifetimes) := goodIn_app (goodIn_of _ (by decide +kernel)) ggX2_copies_X1_findLifetimes
set_option maxRecDepth 20000 in
theorem ggX2_copies_X1_countCopies : GoodIn wsX2_copies wsX1_countCopies := goodIn_r _ [42, 23, 29, 31, 32, 33, 34, 56, 57, 58, 59, 60] (by decide +kernel) (by decide +kernel)
set_option maxRecDepth 20000 in
theorem gX2_copies_X1_countCopies : GoodIn wsX2_copies (wsV RX2 155 RX1 yX1_countCopies wsX1_countCopies) := goodIn_app (goodIn_of _ (by decide +kernel)) ggX2_copies_X1_countCopies
theorem dX2_copies_0 : decode cX2_copies 0 = .ok (.aload_n 0, 1) := by decide +kernel
theorem dX2_copies_1 : decode cX2_copies 1 = .ok (.iload_n 1, 1) := by decide +kernel
theorem dX2_copies_2 : decode cX2_copies 2 = .ok (.invokevirtual 64, 3) := by decide +kernel
theorem dX2_copies_5 : decode cX2_copies 5 = .ok (.aload_n 0, 1) := by decide +kernel
theorem dX2_copies_6 : decode cX2_copies 6 = .ok (.invokevirtual 120, 3) := by decide +kernel
theorem dX2_copies_9 : decode cX2_copies 9 = .ok (.aload_n 0, 1) := by decide +kernel
theorem dX2_copies_10 : decode cX2_copies 10 = .ok (.getfield 21, 3) := by decide +kernel
theorem dX2_copies_13 : decode cX2_copies 13 = .ok (.invokevirtual 146, 3) := by decide +kernel
theorem dX2_copies_16 : decode cX2_copies 16 = .ok (.aload_n 0, 1) := by decide +kernel
theorem dX2_copies_17 : decode cX2_copies 17 = .ok (.getfield 21, 3) := by decide +kernel
theorem dX2_copies_20 : decode cX2_copies 20 = .ok (.iload_n 1, 1) := by decide +kernel
theorem dX2_copies_21 : decode cX2_copies 21 = .ok (.invokevirtual 155, 3) := by decide +kernel
theorem dX2_copies_24 : decode cX2_copies 24 = .ok (.ireturn, 1) := by decide +kernel
set_option maxRecDepth 20000 in
theorem ggX2_unrolling_X2_requireSchedule : GoodIn wsX2_unrolling wsX2_requireSchedule := goodIn_ca (goodIn_r _ [10, 11, 12, 1, 13, 42, 43, 44, 55, 56, 57, 58, 59] (by decide +kernel) (by decide +kernel)) (goodIn_sub (fun _ h => List.mem_cons_of_mem _ (List.mem_append_right _ h)) (by decide +kernel))
set_option maxRecDepth 20000 in
theorem gX2_unrolling_X2_requireSchedule : GoodIn wsX2_unrolling (wsV RX2 120 RX2 yX2_requireSchedule wsX2_requireSchedule) := goodIn_app (goodIn_of _ (by decide +kernel)) ggX2_unrolling_X2_requireSchedule
set_option maxRecDepth 20000 in
theorem ggX2_unrolling_X1_findLifetimes : GoodIn wsX2_unrolling wsX1_findLifetimes := goodIn_r _ [18, 19, 20, 21, 22, 23, 24, 25, 26, 27, 28, 29, 30, 31, 32, 33, 34, 55, 56, 57, 58, 59, 45, 46, 47, 48, 49, 50, 51, 52, 53, 54] (by decide +kernel) (by decide +kernel)
set_option maxRecDepth 20000 in
theorem gX2_unrolling_X1_findLifetimes : GoodIn wsX2_unrolling (wsV RX2 146 RX1 yX1_findLifetimes wsX1_findLifetimes) := goodIn_app (goodIn_of _ (by decide +kernel)) ggX2_unrolling_X1_findLifetimes
set_option maxRecDepth 20000 in
theorem ggX2_unrolling_X1_countCopies : GoodIn wsX2_unrolling wsX1_countCopies := goodIn_r _ [38, 19, 25, 27, 28, 29, 30, 55, 56, 57, 58, 59] (by decide +kernel) (by decide +kernel)
set_option maxRecDepth 20000 in
theorem gX2_unrolling_X1_countCopies : GoodIn wsX2_unrolling (wsV RX2 155 RX1 yX1_countCopies wsX1_countCopies) := goodIn_app (goodIn_of _ (by decide +kernel)) ggX2_unrolling_X1_countCopies
set_option maxRecDepth 20000 in
theorem ggX2_unrolling_X2_leastCommonMultiple : GoodIn wsX2_unrolling wsX2_leastCommonMultiple := goodIn_r _ [41] (by decide +kernel) (by decide +kernel)
set_option maxRecDepth 20000 in
theorem gX2_unrolling_X2_leastCommonMultiple : GoodIn wsX2_unrolling (va_wsS RX2 158 yX2_leastCommonMultiple wsX2_leastCommonMultiple) := goodIn_app (goodIn_of _ (by decide +kernel)) ggX2_unrolling_X2_leastCommonMultiple
theorem dX2_unrolling_0 : decode cX2_unrolling 0 = .ok (.aload_n 0, 1) := by decide +kernel
theorem dX2_unrolling_1 : decode cX2_unrolling 1 = .ok (.invokevirtual 120, 3) := by decide +kernel
theorem dX2_unrolling_4 : decode cX2_unrolling 4 = .ok (.aload_n 0, 1) := by decide +kernel
theorem dX2_unrolling_5 : decode cX2_unrolling 5 = .ok (.getfield 21, 3) := by decide +kernel
theorem dX2_unrolling_8 : decode cX2_unrolling 8 = .ok (.invokevirtual 146, 3) := by decide +kernel
theorem dX2_unrolling_11 : decode cX2_unrolling 11 = .ok (.lconst 1, 1) := by decide +kernel
theorem dX2_unrolling_12 : decode cX2_unrolling 12 = .ok (.lstore_n 1, 1) := by decide +kernel
theorem dX2_unrolling_13 : decode cX2_unrolling 13 = .ok (.iconst 0, 1) := by decide +kernel
theorem dX2_unrolling_14 : decode cX2_unrolling 14 = .ok (.istore_n 3, 1) := by decide +kernel
theorem dX2_unrolling_15 : decode cX2_unrolling 15 = .ok (.iload_n 3, 1) := by decide +kernel
theorem dX2_unrolling_16 : decode cX2_unrolling 16 = .ok (.aload_n 0, 1) := by decide +kernel
theorem dX2_unrolling_17 : decode cX2_unrolling 17 = .ok (.getfield 10, 3) := by decide +kernel
theorem dX2_unrolling_20 : decode cX2_unrolling 20 = .ok (.getfield 51, 3) := by decide +kernel
theorem dX2_unrolling_23 : decode cX2_unrolling 23 = .ok (.if_icmp .ge 33, 3) := by decide +kernel
theorem dX2_unrolling_26 : decode cX2_unrolling 26 = .ok (.lload_n 1, 1) := by decide +kernel
theorem dX2_unrolling_27 : decode cX2_unrolling 27 = .ok (.aload_n 0, 1) := by decide +kernel
theorem dX2_unrolling_28 : decode cX2_unrolling 28 = .ok (.getfield 21, 3) := by decide +kernel
theorem dX2_unrolling_31 : decode cX2_unrolling 31 = .ok (.iload_n 3, 1) := by decide +kernel
theorem dX2_unrolling_32 : decode cX2_unrolling 32 = .ok (.invokevirtual 155, 3) := by decide +kernel
theorem dX2_unrolling_35 : decode cX2_unrolling 35 = .ok (.invokestatic 158, 3) := by decide +kernel
theorem dX2_unrolling_38 : decode cX2_unrolling 38 = .ok (.lstore_n 1, 1) := by decide +kernel
theorem dX2_unrolling_39 : decode cX2_unrolling 39 = .ok (.lload_n 1, 1) := by decide +kernel
theorem dX2_unrolling_40 : decode cX2_unrolling 40 = .ok (.ldc2_w 162, 3) := by decide +kernel
theorem dX2_unrolling_43 : decode cX2_unrolling 43 = .ok (.lcmp, 1) := by decide +kernel
theorem dX2_unrolling_44 : decode cX2_unrolling 44 = .ok (.ifCond .le 6, 3) := by decide +kernel
theorem dX2_unrolling_47 : decode cX2_unrolling 47 = .ok (.ldc 164, 2) := by decide +kernel
theorem dX2_unrolling_49 : decode cX2_unrolling 49 = .ok (.ireturn, 1) := by decide +kernel
theorem dX2_unrolling_50 : decode cX2_unrolling 50 = .ok (.iinc 3 1, 3) := by decide +kernel
theorem dX2_unrolling_53 : decode cX2_unrolling 53 = .ok (.goto (-38), 3) := by decide +kernel
theorem dX2_unrolling_56 : decode cX2_unrolling 56 = .ok (.lload_n 1, 1) := by decide +kernel
theorem dX2_unrolling_57 : decode cX2_unrolling 57 = .ok (.l2i, 1) := by decide +kernel
theorem dX2_unrolling_58 : decode cX2_unrolling 58 = .ok (.ireturn, 1) := by decide +kernel
set_option maxRecDepth 20000 in
theorem ggX2_cycles_X2_requireSchedule : GoodIn wsX2_cycles wsX2_requireSchedule := goodIn_ca (goodIn_r _ [9, 10, 11, 3, 4, 29, 30, 31, 42, 43, 44, 45, 46] (by decide +kernel) (by decide +kernel)) (goodIn_sub (fun _ h => List.mem_cons_of_mem _ (List.mem_append_left _ (List.mem_append_right _ h))) (by decide +kernel))
set_option maxRecDepth 20000 in
theorem gX2_cycles_X2_requireSchedule : GoodIn wsX2_cycles (wsV RX2 120 RX2 yX2_requireSchedule wsX2_requireSchedule) := goodIn_app (goodIn_of _ (by decide +kernel)) ggX2_cycles_X2_requireSchedule
set_option maxRecDepth 20000 in
theorem ggX2_cycles_X2_requireIterations : GoodIn wsX2_cycles wsX2_requireIterations := goodIn_ca (goodIn_r _ [14, 15, 16] (by decide +kernel) (by decide +kernel)) (goodIn_sub (fun _ h => List.mem_cons_of_mem _ (List.mem_append_right _ h)) (by decide +kernel))
set_option maxRecDepth 20000 in
theorem gX2_cycles_X2_requireIterations : GoodIn wsX2_cycles (va_wsS RX2 165 yX2_requireIterations wsX2_requireIterations) := goodIn_app (goodIn_of _ (by decide +kernel)) ggX2_cycles_X2_requireIterations
set_option maxRecDepth 20000 in
theorem ggX2_cycles_X1_greatestTime : GoodIn wsX2_cycles wsX1_greatestTime := goodIn_r _ [21, 22, 23, 24, 25, 26, 27, 28, 42, 43, 44, 45, 46, 32, 33, 34, 35, 36, 37, 38, 39, 40, 41] (by decide +kernel) (by decide +kernel)
set_option maxRecDepth 20000 in
theorem gX2_cycles_X1_greatestTime : GoodIn wsX2_cycles (wsV RX2 168 RX1 yX1_greatestTime wsX1_greatestTime) := goodIn_app (goodIn_of _ (by decide +kernel)) ggX2_cycles_X1_greatestTime
theorem dX2_cycles_0 : decode cX2_cycles 0 = .ok (.aload_n 0, 1) := by decide +kernel
theorem dX2_cycles_1 : decode cX2_cycles 1 = .ok (.invokevirtual 120, 3) := by decide +kernel
theorem dX2_cycles_4 : decode cX2_cycles 4 = .ok (.iload_n 1, 1) := by decide +kernel
theorem dX2_cycles_5 : decode cX2_cycles 5 = .ok (.invokestatic 165, 3) := by decide +kernel
theorem dX2_cycles_8 : decode cX2_cycles 8 = .ok (.aload_n 0, 1) := by decide +kernel
theorem dX2_cycles_9 : decode cX2_cycles 9 = .ok (.getfield 10, 3) := by decide +kernel
theorem dX2_cycles_12 : decode cX2_cycles 12 = .ok (.getfield 51, 3) := by decide +kernel
theorem dX2_cycles_15 : decode cX2_cycles 15 = .ok (.ifCond .ne 5, 3) := by decide +kernel
theorem dX2_cycles_18 : decode cX2_cycles 18 = .ok (.iconst 0, 1) := by decide +kernel
theorem dX2_cycles_19 : decode cX2_cycles 19 = .ok (.ireturn, 1) := by decide +kernel
theorem dX2_cycles_20 : decode cX2_cycles 20 = .ok (.aload_n 0, 1) := by decide +kernel
theorem dX2_cycles_21 : decode cX2_cycles 21 = .ok (.getfield 21, 3) := by decide +kernel
theorem dX2_cycles_24 : decode cX2_cycles 24 = .ok (.invokevirtual 168, 3) := by decide +kernel
theorem dX2_cycles_27 : decode cX2_cycles 27 = .ok (.iload_n 1, 1) := by decide +kernel
theorem dX2_cycles_28 : decode cX2_cycles 28 = .ok (.iconst 1, 1) := by decide +kernel
theorem dX2_cycles_29 : decode cX2_cycles 29 = .ok (.isub, 1) := by decide +kernel
theorem dX2_cycles_30 : decode cX2_cycles 30 = .ok (.aload_n 0, 1) := by decide +kernel
theorem dX2_cycles_31 : decode cX2_cycles 31 = .ok (.getfield 21, 3) := by decide +kernel
theorem dX2_cycles_34 : decode cX2_cycles 34 = .ok (.getfield 117, 3) := by decide +kernel
theorem dX2_cycles_37 : decode cX2_cycles 37 = .ok (.imul, 1) := by decide +kernel
theorem dX2_cycles_38 : decode cX2_cycles 38 = .ok (.iadd, 1) := by decide +kernel
theorem dX2_cycles_39 : decode cX2_cycles 39 = .ok (.iconst 1, 1) := by decide +kernel
theorem dX2_cycles_40 : decode cX2_cycles 40 = .ok (.iadd, 1) := by decide +kernel
theorem dX2_cycles_41 : decode cX2_cycles 41 = .ok (.ireturn, 1) := by decide +kernel
set_option maxRecDepth 20000 in
theorem ggX2_issued_X2_requireSchedule : GoodIn wsX2_issued wsX2_requireSchedule := goodIn_ca (goodIn_r _ [7, 8, 9, 10, 11, 25, 26, 27, 38, 39, 40, 41, 42] (by decide +kernel) (by decide +kernel)) (goodIn_sub (fun _ h => List.mem_cons_of_mem _ (List.mem_append_left _ (List.mem_append_right _ h))) (by decide +kernel))
set_option maxRecDepth 20000 in
theorem gX2_issued_X2_requireSchedule : GoodIn wsX2_issued (wsV RX2 120 RX2 yX2_requireSchedule wsX2_requireSchedule) := goodIn_app (goodIn_of _ (by decide +kernel)) ggX2_issued_X2_requireSchedule
set_option maxRecDepth 20000 in
theorem ggX2_issued_X2_requireIterations : GoodIn wsX2_issued wsX2_requireIterations := goodIn_ca (goodIn_r _ [14, 15, 16] (by decide +kernel) (by decide +kernel)) (goodIn_sub (fun _ h => List.mem_cons_of_mem _ (List.mem_append_right _ h)) (by decide +kernel))
set_option maxRecDepth 20000 in
theorem gX2_issued_X2_requireIterations : GoodIn wsX2_issued (va_wsS RX2 165 yX2_requireIterations wsX2_requireIterations) := goodIn_app (goodIn_of _ (by decide +kernel)) ggX2_issued_X2_requireIterations
set_option maxRecDepth 20000 in
theorem ggX2_issued_X2_requireCycle : GoodIn wsX2_issued wsX2_requireCycle := goodIn_ca (goodIn_r _ [19, 15, 16] (by decide +kernel) (by decide +kernel)) (goodIn_sub (fun _ h => List.mem_cons_of_mem _ (List.mem_append_right _ h)) (by decide +kernel))
set_option maxRecDepth 20000 in
theorem gX2_issued_X2_requireCycle : GoodIn wsX2_issued (va_wsS RX2 171 yX2_requireCycle wsX2_requireCycle) := goodIn_app (goodIn_of _ (by decide +kernel)) ggX2_issued_X2_requireCycle
set_option maxRecDepth 20000 in
theorem ggX2_issued_X2_isIssued : GoodIn wsX2_issued wsX2_isIssued := goodIn_r _ [23, 10, 24, 11, 25, 26, 27, 38, 39, 40, 41, 42] (by decide +kernel) (by decide +kernel)
set_option maxRecDepth 20000 in
theorem gX2_issued_X2_isIssued : GoodIn wsX2_issued (wsV RX2 174 RX2 yX2_isIssued wsX2_isIssued) := goodIn_app (goodIn_of _ (by decide +kernel)) ggX2_issued_X2_isIssued
theorem dX2_issued_0 : decode cX2_issued 0 = .ok (.aload_n 0, 1) := by decide +kernel
theorem dX2_issued_1 : decode cX2_issued 1 = .ok (.invokevirtual 120, 3) := by decide +kernel
theorem dX2_issued_4 : decode cX2_issued 4 = .ok (.iload_n 1, 1) := by decide +kernel
theorem dX2_issued_5 : decode cX2_issued 5 = .ok (.invokestatic 165, 3) := by decide +kernel
theorem dX2_issued_8 : decode cX2_issued 8 = .ok (.iload_n 2, 1) := by decide +kernel
theorem dX2_issued_9 : decode cX2_issued 9 = .ok (.invokestatic 171, 3) := by decide +kernel
theorem dX2_issued_12 : decode cX2_issued 12 = .ok (.iconst 0, 1) := by decide +kernel
theorem dX2_issued_13 : decode cX2_issued 13 = .ok (.istore_n 3, 1) := by decide +kernel
theorem dX2_issued_14 : decode cX2_issued 14 = .ok (.iconst 0, 1) := by decide +kernel
theorem dX2_issued_15 : decode cX2_issued 15 = .ok (.istore 4, 2) := by decide +kernel
theorem dX2_issued_17 : decode cX2_issued 17 = .ok (.iload 4, 2) := by decide +kernel
theorem dX2_issued_19 : decode cX2_issued 19 = .ok (.aload_n 0, 1) := by decide +kernel
theorem dX2_issued_20 : decode cX2_issued 20 = .ok (.getfield 10, 3) := by decide +kernel
theorem dX2_issued_23 : decode cX2_issued 23 = .ok (.getfield 51, 3) := by decide +kernel
theorem dX2_issued_26 : decode cX2_issued 26 = .ok (.if_icmp .ge 23, 3) := by decide +kernel
theorem dX2_issued_29 : decode cX2_issued 29 = .ok (.aload_n 0, 1) := by decide +kernel
theorem dX2_issued_30 : decode cX2_issued 30 = .ok (.iload 4, 2) := by decide +kernel
theorem dX2_issued_32 : decode cX2_issued 32 = .ok (.iload_n 1, 1) := by decide +kernel
theorem dX2_issued_33 : decode cX2_issued 33 = .ok (.iload_n 2, 1) := by decide +kernel
theorem dX2_issued_34 : decode cX2_issued 34 = .ok (.invokevirtual 174, 3) := by decide +kernel
theorem dX2_issued_37 : decode cX2_issued 37 = .ok (.ifCond .eq 6, 3) := by decide +kernel
theorem dX2_issued_40 : decode cX2_issued 40 = .ok (.iinc 3 1, 3) := by decide +kernel
theorem dX2_issued_43 : decode cX2_issued 43 = .ok (.iinc 4 1, 3) := by decide +kernel
theorem dX2_issued_46 : decode cX2_issued 46 = .ok (.goto (-29), 3) := by decide +kernel
theorem dX2_issued_49 : decode cX2_issued 49 = .ok (.iload_n 3, 1) := by decide +kernel
theorem dX2_issued_50 : decode cX2_issued 50 = .ok (.ireturn, 1) := by decide +kernel
set_option maxRecDepth 20000 in
theorem ggX2_issue_X2_requireSchedule : GoodIn wsX2_issue wsX2_requireSchedule := goodIn_ca (goodIn_r _ [9, 10, 11, 12, 13, 35, 36, 37, 48, 49, 50, 51, 52] (by decide +kernel) (by decide +kernel)) (goodIn_sub (fun _ h => List.mem_cons_of_mem _ (List.mem_append_left _ (List.mem_append_right _ h))) (by decide +kernel))
set_option maxRecDepth 20000 in
theorem gX2_issue_X2_requireSchedule : GoodIn wsX2_issue (wsV RX2 120 RX2 yX2_requireSchedule wsX2_requireSchedule) := goodIn_app (goodIn_of _ (by decide +kernel)) ggX2_issue_X2_requireSchedule
set_option maxRecDepth 20000 in
theorem ggX2_issue_X2_requireIterations : GoodIn wsX2_issue wsX2_requireIterations := goodIn_ca (goodIn_r _ [16, 17, 18] (by decide +kernel) (by decide +kernel)) (goodIn_sub (fun _ h => List.mem_cons_of_mem _ (List.mem_append_right _ h)) (by decide +kernel))
set_option maxRecDepth 20000 in
theorem gX2_issue_X2_requireIterations : GoodIn wsX2_issue (va_wsS RX2 165 yX2_requireIterations wsX2_requireIterations) := goodIn_app (goodIn_of _ (by decide +kernel)) ggX2_issue_X2_requireIterations
set_option maxRecDepth 20000 in
theorem ggX2_issue_X2_requireCycle : GoodIn wsX2_issue wsX2_requireCycle := goodIn_ca (goodIn_r _ [21, 17, 18] (by decide +kernel) (by decide +kernel)) (goodIn_sub (fun _ h => List.mem_cons_of_mem _ (List.mem_append_right _ h)) (by decide +kernel))
set_option maxRecDepth 20000 in
theorem gX2_issue_X2_requireCycle : GoodIn wsX2_issue (va_wsS RX2 171 yX2_requireCycle wsX2_requireCycle) := goodIn_app (goodIn_of _ (by decide +kernel)) ggX2_issue_X2_requireCycle
set_option maxRecDepth 20000 in
theorem ggX2_issue_X2_isIssued : GoodIn wsX2_issue wsX2_isIssued := goodIn_r _ [25, 12, 26, 13, 35, 36, 37, 48, 49, 50, 51, 52] (by decide +kernel) (by decide +kernel)
set_option maxRecDepth 20000 in
theorem gX2_issue_X2_isIssued : GoodIn wsX2_issue (wsV RX2 174 RX2 yX2_isIssued wsX2_isIssued) := goodIn_app (goodIn_of _ (by decide +kernel)) ggX2_issue_X2_isIssued
set_option maxRecDepth 20000 in
theorem ggX2_issue_X2_countIssuedBefore : GoodIn wsX2_issue wsX2_countIssuedBefore := goodIn_r _ [30, 3, 4, 31, 32, 33, 8, 34, 12, 26, 13, 22, 23, 24, 25, 35, 36, 37, 38, 39, 40, 41, 42, 43, 44, 45, 46, 47, 48, 49, 50, 51, 52] (by decide +kernel) (by decide +kernel)
set_option maxRecDepth 20000 in
theorem gX2_issue_X2_countIssuedBefore : GoodIn wsX2_issue (wsV RX2 178 RX2 yX2_countIssuedBefore wsX2_countIssuedBefore) := goodIn_app (goodIn_of _ (by decide +kernel)) ggX2_issue_X2_countIssuedBefore
set_option maxRecDepth 20000 in
theorem ggX2_issue_X2_issueNumber : GoodIn wsX2_issue wsX2_issueNumber := goodIn_r _ [34, 12, 26, 13, 35, 36, 37, 48, 49, 50, 51, 52] (by decide +kernel) (by decide +kernel)
set_option maxRecDepth 20000 in
theorem gX2_issue_X2_issueNumber : GoodIn wsX2_issue (wsV RX2 182 RX2 yX2_issueNumber wsX2_issueNumber) := goodIn_app (goodIn_of _ (by decide +kernel)) ggX2_issue_X2_issueNumber
theorem dX2_issue_0 : decode cX2_issue 0 = .ok (.aload_n 0, 1) := by decide +kernel
theorem dX2_issue_1 : decode cX2_issue 1 = .ok (.invokevirtual 120, 3) := by decide +kernel
theorem dX2_issue_4 : decode cX2_issue 4 = .ok (.iload_n 1, 1) := by decide +kernel
theorem dX2_issue_5 : decode cX2_issue 5 = .ok (.invokestatic 165, 3) := by decide +kernel
theorem dX2_issue_8 : decode cX2_issue 8 = .ok (.iload_n 2, 1) := by decide +kernel
theorem dX2_issue_9 : decode cX2_issue 9 = .ok (.invokestatic 171, 3) := by decide +kernel
theorem dX2_issue_12 : decode cX2_issue 12 = .ok (.iconst 0, 1) := by decide +kernel
theorem dX2_issue_13 : decode cX2_issue 13 = .ok (.istore 4, 2) := by decide +kernel
theorem dX2_issue_15 : decode cX2_issue 15 = .ok (.iload 4, 2) := by decide +kernel
theorem dX2_issue_17 : decode cX2_issue 17 = .ok (.aload_n 0, 1) := by decide +kernel
theorem dX2_issue_18 : decode cX2_issue 18 = .ok (.getfield 10, 3) := by decide +kernel
theorem dX2_issue_21 : decode cX2_issue 21 = .ok (.getfield 51, 3) := by decide +kernel
theorem dX2_issue_24 : decode cX2_issue 24 = .ok (.if_icmp .ge 40, 3) := by decide +kernel
theorem dX2_issue_27 : decode cX2_issue 27 = .ok (.aload_n 0, 1) := by decide +kernel
theorem dX2_issue_28 : decode cX2_issue 28 = .ok (.iload 4, 2) := by decide +kernel
theorem dX2_issue_30 : decode cX2_issue 30 = .ok (.iload_n 1, 1) := by decide +kernel
theorem dX2_issue_31 : decode cX2_issue 31 = .ok (.iload_n 2, 1) := by decide +kernel
theorem dX2_issue_32 : decode cX2_issue 32 = .ok (.invokevirtual 174, 3) := by decide +kernel
theorem dX2_issue_35 : decode cX2_issue 35 = .ok (.ifCond .eq 23, 3) := by decide +kernel
theorem dX2_issue_38 : decode cX2_issue 38 = .ok (.aload_n 0, 1) := by decide +kernel
theorem dX2_issue_39 : decode cX2_issue 39 = .ok (.iload 4, 2) := by decide +kernel
theorem dX2_issue_41 : decode cX2_issue 41 = .ok (.iload_n 1, 1) := by decide +kernel
theorem dX2_issue_42 : decode cX2_issue 42 = .ok (.iload_n 2, 1) := by decide +kernel
theorem dX2_issue_43 : decode cX2_issue 43 = .ok (.invokevirtual 178, 3) := by decide +kernel
theorem dX2_issue_46 : decode cX2_issue 46 = .ok (.iload_n 3, 1) := by decide +kernel
theorem dX2_issue_47 : decode cX2_issue 47 = .ok (.if_icmp .ne 11, 3) := by decide +kernel
theorem dX2_issue_50 : decode cX2_issue 50 = .ok (.aload_n 0, 1) := by decide +kernel
theorem dX2_issue_51 : decode cX2_issue 51 = .ok (.iload 4, 2) := by decide +kernel
theorem dX2_issue_53 : decode cX2_issue 53 = .ok (.iload_n 2, 1) := by decide +kernel
theorem dX2_issue_54 : decode cX2_issue 54 = .ok (.invokevirtual 182, 3) := by decide +kernel
theorem dX2_issue_57 : decode cX2_issue 57 = .ok (.ireturn, 1) := by decide +kernel
theorem dX2_issue_58 : decode cX2_issue 58 = .ok (.iinc 4 1, 3) := by decide +kernel
theorem dX2_issue_61 : decode cX2_issue 61 = .ok (.goto (-46), 3) := by decide +kernel
theorem dX2_issue_64 : decode cX2_issue 64 = .ok (.new 81, 3) := by decide +kernel
theorem dX2_issue_67 : decode cX2_issue 67 = .ok (.dup, 1) := by decide +kernel
theorem dX2_issue_68 : decode cX2_issue 68 = .ok (.ldc 185, 2) := by decide +kernel
theorem dX2_issue_70 : decode cX2_issue 70 = .ok (.invokespecial 85, 3) := by decide +kernel
theorem dX2_issue_73 : decode cX2_issue 73 = .ok (.athrow, 1) := by decide +kernel
set_option maxRecDepth 20000 in
theorem ggX2_prologue_X2_requireSchedule : GoodIn wsX2_prologue wsX2_requireSchedule := goodIn_ca (goodIn_r _ [8, 9, 10, 1, 11, 33, 34, 35, 46, 47, 48, 49, 50] (by decide +kernel) (by decide +kernel)) (goodIn_sub (fun _ h => List.mem_cons_of_mem _ (List.mem_append_right _ h)) (by decide +kernel))
set_option maxRecDepth 20000 in
theorem gX2_prologue_X2_requireSchedule : GoodIn wsX2_prologue (wsV RX2 120 RX2 yX2_requireSchedule wsX2_requireSchedule) := goodIn_app (goodIn_of _ (by decide +kernel)) ggX2_prologue_X2_requireSchedule
set_option maxRecDepth 20000 in
theorem ggX2_prologue_X1_countStages : GoodIn wsX2_prologue wsX1_countStages := goodIn_r _ [16, 17, 18, 19, 20, 21, 22, 15, 23, 24, 25, 26, 27, 28, 46, 47, 48, 49, 50, 36, 37, 38, 39, 40, 41, 42, 43, 44, 45] (by decide +kernel) (by decide +kernel)
set_option maxRecDepth 20000 in
theorem gX2_prologue_X1_countStages : GoodIn wsX2_prologue (wsV RX2 136 RX1 yX1_countStages wsX1_countStages) := goodIn_app (goodIn_of _ (by decide +kernel)) ggX2_prologue_X1_countStages
set_option maxRecDepth 20000 in
theorem ggX2_prologue_X1_stageOf : GoodIn wsX2_prologue wsX1_stageOf := goodIn_r _ [32, 24, 19, 46, 47, 48, 49, 50] (by decide +kernel) (by decide +kernel)
set_option maxRecDepth 20000 in
theorem gX2_prologue_X1_stageOf : GoodIn wsX2_prologue (wsV RX2 187 RX1 yX1_stageOf wsX1_stageOf) := goodIn_app (goodIn_of _ (by decide +kernel)) ggX2_prologue_X1_stageOf
theorem dX2_prologue_0 : decode cX2_prologue 0 = .ok (.aload_n 0, 1) := by decide +kernel
theorem dX2_prologue_1 : decode cX2_prologue 1 = .ok (.invokevirtual 120, 3) := by decide +kernel
theorem dX2_prologue_4 : decode cX2_prologue 4 = .ok (.aload_n 0, 1) := by decide +kernel
theorem dX2_prologue_5 : decode cX2_prologue 5 = .ok (.getfield 21, 3) := by decide +kernel
theorem dX2_prologue_8 : decode cX2_prologue 8 = .ok (.invokevirtual 136, 3) := by decide +kernel
theorem dX2_prologue_11 : decode cX2_prologue 11 = .ok (.iconst 1, 1) := by decide +kernel
theorem dX2_prologue_12 : decode cX2_prologue 12 = .ok (.isub, 1) := by decide +kernel
theorem dX2_prologue_13 : decode cX2_prologue 13 = .ok (.istore_n 1, 1) := by decide +kernel
theorem dX2_prologue_14 : decode cX2_prologue 14 = .ok (.iconst 0, 1) := by decide +kernel
theorem dX2_prologue_15 : decode cX2_prologue 15 = .ok (.istore_n 2, 1) := by decide +kernel
theorem dX2_prologue_16 : decode cX2_prologue 16 = .ok (.iconst 0, 1) := by decide +kernel
theorem dX2_prologue_17 : decode cX2_prologue 17 = .ok (.istore_n 3, 1) := by decide +kernel
theorem dX2_prologue_18 : decode cX2_prologue 18 = .ok (.iload_n 3, 1) := by decide +kernel
theorem dX2_prologue_19 : decode cX2_prologue 19 = .ok (.aload_n 0, 1) := by decide +kernel
theorem dX2_prologue_20 : decode cX2_prologue 20 = .ok (.getfield 10, 3) := by decide +kernel
theorem dX2_prologue_23 : decode cX2_prologue 23 = .ok (.getfield 51, 3) := by decide +kernel
theorem dX2_prologue_26 : decode cX2_prologue 26 = .ok (.if_icmp .ge 22, 3) := by decide +kernel
theorem dX2_prologue_29 : decode cX2_prologue 29 = .ok (.iload_n 2, 1) := by decide +kernel
theorem dX2_prologue_30 : decode cX2_prologue 30 = .ok (.iload_n 1, 1) := by decide +kernel
theorem dX2_prologue_31 : decode cX2_prologue 31 = .ok (.aload_n 0, 1) := by decide +kernel
theorem dX2_prologue_32 : decode cX2_prologue 32 = .ok (.getfield 21, 3) := by decide +kernel
theorem dX2_prologue_35 : decode cX2_prologue 35 = .ok (.iload_n 3, 1) := by decide +kernel
theorem dX2_prologue_36 : decode cX2_prologue 36 = .ok (.invokevirtual 187, 3) := by decide +kernel
theorem dX2_prologue_39 : decode cX2_prologue 39 = .ok (.isub, 1) := by decide +kernel
theorem dX2_prologue_40 : decode cX2_prologue 40 = .ok (.iadd, 1) := by decide +kernel
theorem dX2_prologue_41 : decode cX2_prologue 41 = .ok (.istore_n 2, 1) := by decide +kernel
theorem dX2_prologue_42 : decode cX2_prologue 42 = .ok (.iinc 3 1, 3) := by decide +kernel
theorem dX2_prologue_45 : decode cX2_prologue 45 = .ok (.goto (-27), 3) := by decide +kernel
theorem dX2_prologue_48 : decode cX2_prologue 48 = .ok (.iload_n 2, 1) := by decide +kernel
theorem dX2_prologue_49 : decode cX2_prologue 49 = .ok (.ireturn, 1) := by decide +kernel
set_option maxRecDepth 20000 in
theorem ggX2_epilogue_X2_requireSchedule : GoodIn wsX2_epilogue wsX2_requireSchedule := goodIn_ca (goodIn_r _ [8, 9, 10, 3, 11, 19, 20, 21, 32, 33, 34, 35, 36] (by decide +kernel) (by decide +kernel)) (goodIn_sub (fun _ h => List.mem_cons_of_mem _ (List.mem_append_right _ h)) (by decide +kernel))
set_option maxRecDepth 20000 in
theorem gX2_epilogue_X2_requireSchedule : GoodIn wsX2_epilogue (wsV RX2 120 RX2 yX2_requireSchedule wsX2_requireSchedule) := goodIn_app (goodIn_of _ (by decide +kernel)) ggX2_epilogue_X2_requireSchedule
set_option maxRecDepth 20000 in
theorem ggX2_epilogue_X1_stageOf : GoodIn wsX2_epilogue wsX1_stageOf := goodIn_r _ [16, 17, 18, 32, 33, 34, 35, 36] (by decide +kernel) (by decide +kernel)
set_option maxRecDepth 20000 in
theorem gX2_epilogue_X1_stageOf : GoodIn wsX2_epilogue (wsV RX2 187 RX1 yX1_stageOf wsX1_stageOf) := goodIn_app (goodIn_of _ (by decide +kernel)) ggX2_epilogue_X1_stageOf
theorem dX2_epilogue_0 : decode cX2_epilogue 0 = .ok (.aload_n 0, 1) := by decide +kernel
theorem dX2_epilogue_1 : decode cX2_epilogue 1 = .ok (.invokevirtual 120, 3) := by decide +kernel
theorem dX2_epilogue_4 : decode cX2_epilogue 4 = .ok (.iconst 0, 1) := by decide +kernel
theorem dX2_epilogue_5 : decode cX2_epilogue 5 = .ok (.istore_n 1, 1) := by decide +kernel
theorem dX2_epilogue_6 : decode cX2_epilogue 6 = .ok (.iconst 0, 1) := by decide +kernel
theorem dX2_epilogue_7 : decode cX2_epilogue 7 = .ok (.istore_n 2, 1) := by decide +kernel
theorem dX2_epilogue_8 : decode cX2_epilogue 8 = .ok (.iload_n 2, 1) := by decide +kernel
theorem dX2_epilogue_9 : decode cX2_epilogue 9 = .ok (.aload_n 0, 1) := by decide +kernel
theorem dX2_epilogue_10 : decode cX2_epilogue 10 = .ok (.getfield 10, 3) := by decide +kernel
theorem dX2_epilogue_13 : decode cX2_epilogue 13 = .ok (.getfield 51, 3) := by decide +kernel
theorem dX2_epilogue_16 : decode cX2_epilogue 16 = .ok (.if_icmp .ge 20, 3) := by decide +kernel
theorem dX2_epilogue_19 : decode cX2_epilogue 19 = .ok (.iload_n 1, 1) := by decide +kernel
theorem dX2_epilogue_20 : decode cX2_epilogue 20 = .ok (.aload_n 0, 1) := by decide +kernel
theorem dX2_epilogue_21 : decode cX2_epilogue 21 = .ok (.getfield 21, 3) := by decide +kernel
theorem dX2_epilogue_24 : decode cX2_epilogue 24 = .ok (.iload_n 2, 1) := by decide +kernel
theorem dX2_epilogue_25 : decode cX2_epilogue 25 = .ok (.invokevirtual 187, 3) := by decide +kernel
theorem dX2_epilogue_28 : decode cX2_epilogue 28 = .ok (.iadd, 1) := by decide +kernel
theorem dX2_epilogue_29 : decode cX2_epilogue 29 = .ok (.istore_n 1, 1) := by decide +kernel
theorem dX2_epilogue_30 : decode cX2_epilogue 30 = .ok (.iinc 2 1, 3) := by decide +kernel
theorem dX2_epilogue_33 : decode cX2_epilogue 33 = .ok (.goto (-25), 3) := by decide +kernel
theorem dX2_epilogue_36 : decode cX2_epilogue 36 = .ok (.iload_n 1, 1) := by decide +kernel
theorem dX2_epilogue_37 : decode cX2_epilogue 37 = .ok (.ireturn, 1) := by decide +kernel
set_option maxRecDepth 20000 in
theorem ggX2_digest_X2_digestWith : GoodIn wsX2_digest wsX2_digestWith := goodIn_r _ [18, 19] (by decide +kernel) (by decide +kernel)
set_option maxRecDepth 20000 in
theorem gX2_digest_X2_digestWith : GoodIn wsX2_digest (va_wsS RX2 192 yX2_digestWith wsX2_digestWith) := goodIn_app (goodIn_of _ (by decide +kernel)) ggX2_digest_X2_digestWith
theorem dX2_digest_0 : decode cX2_digest 0 = .ok (.ldc2_w 190, 3) := by decide +kernel
theorem dX2_digest_3 : decode cX2_digest 3 = .ok (.lstore_n 1, 1) := by decide +kernel
theorem dX2_digest_4 : decode cX2_digest 4 = .ok (.iconst 0, 1) := by decide +kernel
theorem dX2_digest_5 : decode cX2_digest 5 = .ok (.istore_n 3, 1) := by decide +kernel
theorem dX2_digest_6 : decode cX2_digest 6 = .ok (.iload_n 3, 1) := by decide +kernel
theorem dX2_digest_7 : decode cX2_digest 7 = .ok (.iconst 3, 1) := by decide +kernel
theorem dX2_digest_8 : decode cX2_digest 8 = .ok (.if_icmp .ge 23, 3) := by decide +kernel
theorem dX2_digest_11 : decode cX2_digest 11 = .ok (.lload_n 1, 1) := by decide +kernel
theorem dX2_digest_12 : decode cX2_digest 12 = .ok (.aload_n 0, 1) := by decide +kernel
theorem dX2_digest_13 : decode cX2_digest 13 = .ok (.getfield 10, 3) := by decide +kernel
theorem dX2_digest_16 : decode cX2_digest 16 = .ok (.getfield 36, 3) := by decide +kernel
theorem dX2_digest_19 : decode cX2_digest 19 = .ok (.iload_n 3, 1) := by decide +kernel
theorem dX2_digest_20 : decode cX2_digest 20 = .ok (.iaload, 1) := by decide +kernel
theorem dX2_digest_21 : decode cX2_digest 21 = .ok (.invokestatic 192, 3) := by decide +kernel
theorem dX2_digest_24 : decode cX2_digest 24 = .ok (.lstore_n 1, 1) := by decide +kernel
theorem dX2_digest_25 : decode cX2_digest 25 = .ok (.iinc 3 1, 3) := by decide +kernel
theorem dX2_digest_28 : decode cX2_digest 28 = .ok (.goto (-22), 3) := by decide +kernel
theorem dX2_digest_31 : decode cX2_digest 31 = .ok (.lload_n 1, 1) := by decide +kernel
theorem dX2_digest_32 : decode cX2_digest 32 = .ok (.aload_n 0, 1) := by decide +kernel
theorem dX2_digest_33 : decode cX2_digest 33 = .ok (.getfield 10, 3) := by decide +kernel
theorem dX2_digest_36 : decode cX2_digest 36 = .ok (.getfield 51, 3) := by decide +kernel
theorem dX2_digest_39 : decode cX2_digest 39 = .ok (.invokestatic 192, 3) := by decide +kernel
theorem dX2_digest_42 : decode cX2_digest 42 = .ok (.lstore_n 1, 1) := by decide +kernel
theorem dX2_digest_43 : decode cX2_digest 43 = .ok (.iconst 0, 1) := by decide +kernel
theorem dX2_digest_44 : decode cX2_digest 44 = .ok (.istore_n 3, 1) := by decide +kernel
theorem dX2_digest_45 : decode cX2_digest 45 = .ok (.iload_n 3, 1) := by decide +kernel
theorem dX2_digest_46 : decode cX2_digest 46 = .ok (.aload_n 0, 1) := by decide +kernel
theorem dX2_digest_47 : decode cX2_digest 47 = .ok (.getfield 10, 3) := by decide +kernel
theorem dX2_digest_50 : decode cX2_digest 50 = .ok (.getfield 51, 3) := by decide +kernel
theorem dX2_digest_53 : decode cX2_digest 53 = .ok (.if_icmp .ge 35, 3) := by decide +kernel
theorem dX2_digest_56 : decode cX2_digest 56 = .ok (.lload_n 1, 1) := by decide +kernel
theorem dX2_digest_57 : decode cX2_digest 57 = .ok (.aload_n 0, 1) := by decide +kernel
theorem dX2_digest_58 : decode cX2_digest 58 = .ok (.getfield 10, 3) := by decide +kernel
theorem dX2_digest_61 : decode cX2_digest 61 = .ok (.getfield 195, 3) := by decide +kernel
theorem dX2_digest_64 : decode cX2_digest 64 = .ok (.iload_n 3, 1) := by decide +kernel
theorem dX2_digest_65 : decode cX2_digest 65 = .ok (.iaload, 1) := by decide +kernel
theorem dX2_digest_66 : decode cX2_digest 66 = .ok (.invokestatic 192, 3) := by decide +kernel
theorem dX2_digest_69 : decode cX2_digest 69 = .ok (.aload_n 0, 1) := by decide +kernel
theorem dX2_digest_70 : decode cX2_digest 70 = .ok (.getfield 10, 3) := by decide +kernel
theorem dX2_digest_73 : decode cX2_digest 73 = .ok (.getfield 198, 3) := by decide +kernel
theorem dX2_digest_76 : decode cX2_digest 76 = .ok (.iload_n 3, 1) := by decide +kernel
theorem dX2_digest_77 : decode cX2_digest 77 = .ok (.iaload, 1) := by decide +kernel
theorem dX2_digest_78 : decode cX2_digest 78 = .ok (.invokestatic 192, 3) := by decide +kernel
theorem dX2_digest_81 : decode cX2_digest 81 = .ok (.lstore_n 1, 1) := by decide +kernel
theorem dX2_digest_82 : decode cX2_digest 82 = .ok (.iinc 3 1, 3) := by decide +kernel
theorem dX2_digest_85 : decode cX2_digest 85 = .ok (.goto (-40), 3) := by decide +kernel
theorem dX2_digest_88 : decode cX2_digest 88 = .ok (.lload_n 1, 1) := by decide +kernel
theorem dX2_digest_89 : decode cX2_digest 89 = .ok (.aload_n 0, 1) := by decide +kernel
theorem dX2_digest_90 : decode cX2_digest 90 = .ok (.getfield 10, 3) := by decide +kernel
theorem dX2_digest_93 : decode cX2_digest 93 = .ok (.getfield 72, 3) := by decide +kernel
theorem dX2_digest_96 : decode cX2_digest 96 = .ok (.invokestatic 192, 3) := by decide +kernel
theorem dX2_digest_99 : decode cX2_digest 99 = .ok (.lstore_n 1, 1) := by decide +kernel
theorem dX2_digest_100 : decode cX2_digest 100 = .ok (.iconst 0, 1) := by decide +kernel
theorem dX2_digest_101 : decode cX2_digest 101 = .ok (.istore_n 3, 1) := by decide +kernel
theorem dX2_digest_102 : decode cX2_digest 102 = .ok (.iload_n 3, 1) := by decide +kernel
theorem dX2_digest_103 : decode cX2_digest 103 = .ok (.aload_n 0, 1) := by decide +kernel
theorem dX2_digest_104 : decode cX2_digest 104 = .ok (.getfield 10, 3) := by decide +kernel
theorem dX2_digest_107 : decode cX2_digest 107 = .ok (.getfield 72, 3) := by decide +kernel
theorem dX2_digest_110 : decode cX2_digest 110 = .ok (.if_icmp .ge 61, 3) := by decide +kernel
theorem dX2_digest_113 : decode cX2_digest 113 = .ok (.lload_n 1, 1) := by decide +kernel
theorem dX2_digest_114 : decode cX2_digest 114 = .ok (.aload_n 0, 1) := by decide +kernel
theorem dX2_digest_115 : decode cX2_digest 115 = .ok (.getfield 10, 3) := by decide +kernel
theorem dX2_digest_118 : decode cX2_digest 118 = .ok (.getfield 201, 3) := by decide +kernel
theorem dX2_digest_121 : decode cX2_digest 121 = .ok (.iload_n 3, 1) := by decide +kernel
theorem dX2_digest_122 : decode cX2_digest 122 = .ok (.iaload, 1) := by decide +kernel
theorem dX2_digest_123 : decode cX2_digest 123 = .ok (.invokestatic 192, 3) := by decide +kernel
theorem dX2_digest_126 : decode cX2_digest 126 = .ok (.aload_n 0, 1) := by decide +kernel
theorem dX2_digest_127 : decode cX2_digest 127 = .ok (.getfield 10, 3) := by decide +kernel
theorem dX2_digest_130 : decode cX2_digest 130 = .ok (.getfield 204, 3) := by decide +kernel
theorem dX2_digest_133 : decode cX2_digest 133 = .ok (.iload_n 3, 1) := by decide +kernel
theorem dX2_digest_134 : decode cX2_digest 134 = .ok (.iaload, 1) := by decide +kernel
theorem dX2_digest_135 : decode cX2_digest 135 = .ok (.invokestatic 192, 3) := by decide +kernel
theorem dX2_digest_138 : decode cX2_digest 138 = .ok (.lstore_n 1, 1) := by decide +kernel
theorem dX2_digest_139 : decode cX2_digest 139 = .ok (.lload_n 1, 1) := by decide +kernel
theorem dX2_digest_140 : decode cX2_digest 140 = .ok (.aload_n 0, 1) := by decide +kernel
theorem dX2_digest_141 : decode cX2_digest 141 = .ok (.getfield 10, 3) := by decide +kernel
theorem dX2_digest_144 : decode cX2_digest 144 = .ok (.getfield 86, 3) := by decide +kernel
theorem dX2_digest_147 : decode cX2_digest 147 = .ok (.iload_n 3, 1) := by decide +kernel
theorem dX2_digest_148 : decode cX2_digest 148 = .ok (.iaload, 1) := by decide +kernel
theorem dX2_digest_149 : decode cX2_digest 149 = .ok (.invokestatic 192, 3) := by decide +kernel
theorem dX2_digest_152 : decode cX2_digest 152 = .ok (.aload_n 0, 1) := by decide +kernel
theorem dX2_digest_153 : decode cX2_digest 153 = .ok (.getfield 10, 3) := by decide +kernel
theorem dX2_digest_156 : decode cX2_digest 156 = .ok (.getfield 207, 3) := by decide +kernel
theorem dX2_digest_159 : decode cX2_digest 159 = .ok (.iload_n 3, 1) := by decide +kernel
theorem dX2_digest_160 : decode cX2_digest 160 = .ok (.iaload, 1) := by decide +kernel
theorem dX2_digest_161 : decode cX2_digest 161 = .ok (.invokestatic 192, 3) := by decide +kernel
theorem dX2_digest_164 : decode cX2_digest 164 = .ok (.lstore_n 1, 1) := by decide +kernel
theorem dX2_digest_165 : decode cX2_digest 165 = .ok (.iinc 3 1, 3) := by decide +kernel
theorem dX2_digest_168 : decode cX2_digest 168 = .ok (.goto (-66), 3) := by decide +kernel
theorem dX2_digest_171 : decode cX2_digest 171 = .ok (.lload_n 1, 1) := by decide +kernel
theorem dX2_digest_172 : decode cX2_digest 172 = .ok (.aload_n 0, 1) := by decide +kernel
theorem dX2_digest_173 : decode cX2_digest 173 = .ok (.getfield 21, 3) := by decide +kernel
theorem dX2_digest_176 : decode cX2_digest 176 = .ok (.getfield 117, 3) := by decide +kernel
theorem dX2_digest_179 : decode cX2_digest 179 = .ok (.invokestatic 192, 3) := by decide +kernel
theorem dX2_digest_182 : decode cX2_digest 182 = .ok (.lstore_n 1, 1) := by decide +kernel
theorem dX2_digest_183 : decode cX2_digest 183 = .ok (.aload_n 0, 1) := by decide +kernel
theorem dX2_digest_184 : decode cX2_digest 184 = .ok (.getfield 21, 3) := by decide +kernel
theorem dX2_digest_187 : decode cX2_digest 187 = .ok (.getfield 117, 3) := by decide +kernel
theorem dX2_digest_190 : decode cX2_digest 190 = .ok (.ifCond .le 36, 3) := by decide +kernel
theorem dX2_digest_193 : decode cX2_digest 193 = .ok (.iconst 0, 1) := by decide +kernel
theorem dX2_digest_194 : decode cX2_digest 194 = .ok (.istore_n 3, 1) := by decide +kernel
theorem dX2_digest_195 : decode cX2_digest 195 = .ok (.iload_n 3, 1) := by decide +kernel
theorem dX2_digest_196 : decode cX2_digest 196 = .ok (.aload_n 0, 1) := by decide +kernel
theorem dX2_digest_197 : decode cX2_digest 197 = .ok (.getfield 10, 3) := by decide +kernel
theorem dX2_digest_200 : decode cX2_digest 200 = .ok (.getfield 51, 3) := by decide +kernel
theorem dX2_digest_203 : decode cX2_digest 203 = .ok (.if_icmp .ge 23, 3) := by decide +kernel
theorem dX2_digest_206 : decode cX2_digest 206 = .ok (.lload_n 1, 1) := by decide +kernel
theorem dX2_digest_207 : decode cX2_digest 207 = .ok (.aload_n 0, 1) := by decide +kernel
theorem dX2_digest_208 : decode cX2_digest 208 = .ok (.getfield 21, 3) := by decide +kernel
theorem dX2_digest_211 : decode cX2_digest 211 = .ok (.getfield 123, 3) := by decide +kernel
theorem dX2_digest_214 : decode cX2_digest 214 = .ok (.iload_n 3, 1) := by decide +kernel
theorem dX2_digest_215 : decode cX2_digest 215 = .ok (.iaload, 1) := by decide +kernel
theorem dX2_digest_216 : decode cX2_digest 216 = .ok (.invokestatic 192, 3) := by decide +kernel
theorem dX2_digest_219 : decode cX2_digest 219 = .ok (.lstore_n 1, 1) := by decide +kernel
theorem dX2_digest_220 : decode cX2_digest 220 = .ok (.iinc 3 1, 3) := by decide +kernel
theorem dX2_digest_223 : decode cX2_digest 223 = .ok (.goto (-28), 3) := by decide +kernel
theorem dX2_digest_226 : decode cX2_digest 226 = .ok (.lload_n 1, 1) := by decide +kernel
theorem dX2_digest_227 : decode cX2_digest 227 = .ok (.lreturn, 1) := by decide +kernel
theorem dX2_digestWith_0 : decode cX2_digestWith 0 = .ok (.lload_n 0, 1) := by decide +kernel
theorem dX2_digestWith_1 : decode cX2_digestWith 1 = .ok (.ldc2_w 210, 3) := by decide +kernel
theorem dX2_digestWith_4 : decode cX2_digestWith 4 = .ok (.lmul, 1) := by decide +kernel
theorem dX2_digestWith_5 : decode cX2_digestWith 5 = .ok (.iload_n 2, 1) := by decide +kernel
theorem dX2_digestWith_6 : decode cX2_digestWith 6 = .ok (.i2l, 1) := by decide +kernel
theorem dX2_digestWith_7 : decode cX2_digestWith 7 = .ok (.ladd, 1) := by decide +kernel
theorem dX2_digestWith_8 : decode cX2_digestWith 8 = .ok (.lreturn, 1) := by decide +kernel
theorem dX2_isIssued_0 : decode cX2_isIssued 0 = .ok (.iload_n 3, 1) := by decide +kernel
theorem dX2_isIssued_1 : decode cX2_isIssued 1 = .ok (.aload_n 0, 1) := by decide +kernel
theorem dX2_isIssued_2 : decode cX2_isIssued 2 = .ok (.getfield 21, 3) := by decide +kernel
theorem dX2_isIssued_5 : decode cX2_isIssued 5 = .ok (.getfield 123, 3) := by decide +kernel
theorem dX2_isIssued_8 : decode cX2_isIssued 8 = .ok (.iload_n 1, 1) := by decide +kernel
theorem dX2_isIssued_9 : decode cX2_isIssued 9 = .ok (.iaload, 1) := by decide +kernel
theorem dX2_isIssued_10 : decode cX2_isIssued 10 = .ok (.isub, 1) := by decide +kernel
theorem dX2_isIssued_11 : decode cX2_isIssued 11 = .ok (.istore 4, 2) := by decide +kernel
theorem dX2_isIssued_13 : decode cX2_isIssued 13 = .ok (.iload 4, 2) := by decide +kernel
theorem dX2_isIssued_15 : decode cX2_isIssued 15 = .ok (.ifCond .lt 34, 3) := by decide +kernel
theorem dX2_isIssued_18 : decode cX2_isIssued 18 = .ok (.iload 4, 2) := by decide +kernel
theorem dX2_isIssued_20 : decode cX2_isIssued 20 = .ok (.aload_n 0, 1) := by decide +kernel
theorem dX2_isIssued_21 : decode cX2_isIssued 21 = .ok (.getfield 21, 3) := by decide +kernel
theorem dX2_isIssued_24 : decode cX2_isIssued 24 = .ok (.getfield 117, 3) := by decide +kernel
theorem dX2_isIssued_27 : decode cX2_isIssued 27 = .ok (.irem, 1) := by decide +kernel
theorem dX2_isIssued_28 : decode cX2_isIssued 28 = .ok (.ifCond .ne 21, 3) := by decide +kernel
theorem dX2_isIssued_31 : decode cX2_isIssued 31 = .ok (.iload 4, 2) := by decide +kernel
theorem dX2_isIssued_33 : decode cX2_isIssued 33 = .ok (.aload_n 0, 1) := by decide +kernel
theorem dX2_isIssued_34 : decode cX2_isIssued 34 = .ok (.getfield 21, 3) := by decide +kernel
theorem dX2_isIssued_37 : decode cX2_isIssued 37 = .ok (.getfield 117, 3) := by decide +kernel
theorem dX2_isIssued_40 : decode cX2_isIssued 40 = .ok (.idiv, 1) := by decide +kernel
theorem dX2_isIssued_41 : decode cX2_isIssued 41 = .ok (.iload_n 2, 1) := by decide +kernel
theorem dX2_isIssued_42 : decode cX2_isIssued 42 = .ok (.if_icmp .ge 7, 3) := by decide +kernel
theorem dX2_isIssued_45 : decode cX2_isIssued 45 = .ok (.iconst 1, 1) := by decide +kernel
theorem dX2_isIssued_46 : decode cX2_isIssued 46 = .ok (.goto 4, 3) := by decide +kernel
theorem dX2_isIssued_49 : decode cX2_isIssued 49 = .ok (.iconst 0, 1) := by decide +kernel
theorem dX2_isIssued_50 : decode cX2_isIssued 50 = .ok (.ireturn, 1) := by decide +kernel
theorem dX2_issueNumber_0 : decode cX2_issueNumber 0 = .ok (.iload_n 2, 1) := by decide +kernel
theorem dX2_issueNumber_1 : decode cX2_issueNumber 1 = .ok (.aload_n 0, 1) := by decide +kernel
theorem dX2_issueNumber_2 : decode cX2_issueNumber 2 = .ok (.getfield 21, 3) := by decide +kernel
theorem dX2_issueNumber_5 : decode cX2_issueNumber 5 = .ok (.getfield 123, 3) := by decide +kernel
theorem dX2_issueNumber_8 : decode cX2_issueNumber 8 = .ok (.iload_n 1, 1) := by decide +kernel
theorem dX2_issueNumber_9 : decode cX2_issueNumber 9 = .ok (.iaload, 1) := by decide +kernel
theorem dX2_issueNumber_10 : decode cX2_issueNumber 10 = .ok (.isub, 1) := by decide +kernel
theorem dX2_issueNumber_11 : decode cX2_issueNumber 11 = .ok (.aload_n 0, 1) := by decide +kernel
theorem dX2_issueNumber_12 : decode cX2_issueNumber 12 = .ok (.getfield 21, 3) := by decide +kernel
theorem dX2_issueNumber_15 : decode cX2_issueNumber 15 = .ok (.getfield 117, 3) := by decide +kernel
theorem dX2_issueNumber_18 : decode cX2_issueNumber 18 = .ok (.idiv, 1) := by decide +kernel
theorem dX2_issueNumber_19 : decode cX2_issueNumber 19 = .ok (.istore_n 3, 1) := by decide +kernel
theorem dX2_issueNumber_20 : decode cX2_issueNumber 20 = .ok (.bipush 14, 2) := by decide +kernel
theorem dX2_issueNumber_22 : decode cX2_issueNumber 22 = .ok (.iload_n 3, 1) := by decide +kernel
theorem dX2_issueNumber_23 : decode cX2_issueNumber 23 = .ok (.imul, 1) := by decide +kernel
theorem dX2_issueNumber_24 : decode cX2_issueNumber 24 = .ok (.iload_n 1, 1) := by decide +kernel
theorem dX2_issueNumber_25 : decode cX2_issueNumber 25 = .ok (.iadd, 1) := by decide +kernel
theorem dX2_issueNumber_26 : decode cX2_issueNumber 26 = .ok (.ireturn, 1) := by decide +kernel
set_option maxRecDepth 20000 in
theorem ggX2_countIssuedBefore_X2_issueNumber : GoodIn wsX2_countIssuedBefore wsX2_issueNumber := goodIn_r _ [7, 8, 9, 10, 15, 16, 17, 28, 29, 30, 31, 32] (by decide +kernel) (by decide +kernel)
set_option maxRecDepth 20000 in
theorem gX2_countIssuedBefore_X2_issueNumber : GoodIn wsX2_countIssuedBefore (wsV RX2 182 RX2 yX2_issueNumber wsX2_issueNumber) := goodIn_app (goodIn_of _ (by decide +kernel)) ggX2_countIssuedBefore_X2_issueNumber
set_option maxRecDepth 20000 in
theorem ggX2_countIssuedBefore_X2_isIssued : GoodIn wsX2_countIssuedBefore wsX2_isIssued := goodIn_r _ [14, 8, 9, 10, 15, 16, 17, 28, 29, 30, 31, 32] (by decide +kernel) (by decide +kernel)
set_option maxRecDepth 20000 in
theorem gX2_countIssuedBefore_X2_isIssued : GoodIn wsX2_countIssuedBefore (wsV RX2 174 RX2 yX2_isIssued wsX2_isIssued) := goodIn_app (goodIn_of _ (by decide +kernel)) ggX2_countIssuedBefore_X2_isIssued
theorem dX2_countIssuedBefore_0 : decode cX2_countIssuedBefore 0 = .ok (.aload_n 0, 1) := by decide +kernel
theorem dX2_countIssuedBefore_1 : decode cX2_countIssuedBefore 1 = .ok (.iload_n 1, 1) := by decide +kernel
theorem dX2_countIssuedBefore_2 : decode cX2_countIssuedBefore 2 = .ok (.iload_n 3, 1) := by decide +kernel
theorem dX2_countIssuedBefore_3 : decode cX2_countIssuedBefore 3 = .ok (.invokevirtual 182, 3) := by decide +kernel
theorem dX2_countIssuedBefore_6 : decode cX2_countIssuedBefore 6 = .ok (.istore 4, 2) := by decide +kernel
theorem dX2_countIssuedBefore_8 : decode cX2_countIssuedBefore 8 = .ok (.iconst 0, 1) := by decide +kernel
theorem dX2_countIssuedBefore_9 : decode cX2_countIssuedBefore 9 = .ok (.istore 5, 2) := by decide +kernel
theorem dX2_countIssuedBefore_11 : decode cX2_countIssuedBefore 11 = .ok (.iconst 0, 1) := by decide +kernel
theorem dX2_countIssuedBefore_12 : decode cX2_countIssuedBefore 12 = .ok (.istore 6, 2) := by decide +kernel
theorem dX2_countIssuedBefore_14 : decode cX2_countIssuedBefore 14 = .ok (.iload 6, 2) := by decide +kernel
theorem dX2_countIssuedBefore_16 : decode cX2_countIssuedBefore 16 = .ok (.aload_n 0, 1) := by decide +kernel
theorem dX2_countIssuedBefore_17 : decode cX2_countIssuedBefore 17 = .ok (.getfield 10, 3) := by decide +kernel
theorem dX2_countIssuedBefore_20 : decode cX2_countIssuedBefore 20 = .ok (.getfield 51, 3) := by decide +kernel
theorem dX2_countIssuedBefore_23 : decode cX2_countIssuedBefore 23 = .ok (.if_icmp .ge 35, 3) := by decide +kernel
theorem dX2_countIssuedBefore_26 : decode cX2_countIssuedBefore 26 = .ok (.aload_n 0, 1) := by decide +kernel
theorem dX2_countIssuedBefore_27 : decode cX2_countIssuedBefore 27 = .ok (.iload 6, 2) := by decide +kernel
theorem dX2_countIssuedBefore_29 : decode cX2_countIssuedBefore 29 = .ok (.iload_n 2, 1) := by decide +kernel
theorem dX2_countIssuedBefore_30 : decode cX2_countIssuedBefore 30 = .ok (.iload_n 3, 1) := by decide +kernel
theorem dX2_countIssuedBefore_31 : decode cX2_countIssuedBefore 31 = .ok (.invokevirtual 174, 3) := by decide +kernel
theorem dX2_countIssuedBefore_34 : decode cX2_countIssuedBefore 34 = .ok (.ifCond .eq 18, 3) := by decide +kernel
theorem dX2_countIssuedBefore_37 : decode cX2_countIssuedBefore 37 = .ok (.aload_n 0, 1) := by decide +kernel
theorem dX2_countIssuedBefore_38 : decode cX2_countIssuedBefore 38 = .ok (.iload 6, 2) := by decide +kernel
theorem dX2_countIssuedBefore_40 : decode cX2_countIssuedBefore 40 = .ok (.iload_n 3, 1) := by decide +kernel
theorem dX2_countIssuedBefore_41 : decode cX2_countIssuedBefore 41 = .ok (.invokevirtual 182, 3) := by decide +kernel
theorem dX2_countIssuedBefore_44 : decode cX2_countIssuedBefore 44 = .ok (.iload 4, 2) := by decide +kernel
theorem dX2_countIssuedBefore_46 : decode cX2_countIssuedBefore 46 = .ok (.if_icmp .ge 6, 3) := by decide +kernel
theorem dX2_countIssuedBefore_49 : decode cX2_countIssuedBefore 49 = .ok (.iinc 5 1, 3) := by decide +kernel
theorem dX2_countIssuedBefore_52 : decode cX2_countIssuedBefore 52 = .ok (.iinc 6 1, 3) := by decide +kernel
theorem dX2_countIssuedBefore_55 : decode cX2_countIssuedBefore 55 = .ok (.goto (-41), 3) := by decide +kernel
theorem dX2_countIssuedBefore_58 : decode cX2_countIssuedBefore 58 = .ok (.iload 5, 2) := by decide +kernel
theorem dX2_countIssuedBefore_60 : decode cX2_countIssuedBefore 60 = .ok (.ireturn, 1) := by decide +kernel
theorem dX2_leastCommonMultiple_0 : decode cX2_leastCommonMultiple 0 = .ok (.iconst 1, 1) := by decide +kernel
theorem dX2_leastCommonMultiple_1 : decode cX2_leastCommonMultiple 1 = .ok (.istore_n 3, 1) := by decide +kernel
theorem dX2_leastCommonMultiple_2 : decode cX2_leastCommonMultiple 2 = .ok (.iload_n 3, 1) := by decide +kernel
theorem dX2_leastCommonMultiple_3 : decode cX2_leastCommonMultiple 3 = .ok (.iload_n 2, 1) := by decide +kernel
theorem dX2_leastCommonMultiple_4 : decode cX2_leastCommonMultiple 4 = .ok (.if_icmp .ge 26, 3) := by decide +kernel
theorem dX2_leastCommonMultiple_7 : decode cX2_leastCommonMultiple 7 = .ok (.lload_n 0, 1) := by decide +kernel
theorem dX2_leastCommonMultiple_8 : decode cX2_leastCommonMultiple 8 = .ok (.iload_n 3, 1) := by decide +kernel
theorem dX2_leastCommonMultiple_9 : decode cX2_leastCommonMultiple 9 = .ok (.i2l, 1) := by decide +kernel
theorem dX2_leastCommonMultiple_10 : decode cX2_leastCommonMultiple 10 = .ok (.lmul, 1) := by decide +kernel
theorem dX2_leastCommonMultiple_11 : decode cX2_leastCommonMultiple 11 = .ok (.iload_n 2, 1) := by decide +kernel
theorem dX2_leastCommonMultiple_12 : decode cX2_leastCommonMultiple 12 = .ok (.i2l, 1) := by decide +kernel
theorem dX2_leastCommonMultiple_13 : decode cX2_leastCommonMultiple 13 = .ok (.lrem, 1) := by decide +kernel
theorem dX2_leastCommonMultiple_14 : decode cX2_leastCommonMultiple 14 = .ok (.lconst 0, 1) := by decide +kernel
theorem dX2_leastCommonMultiple_15 : decode cX2_leastCommonMultiple 15 = .ok (.lcmp, 1) := by decide +kernel
theorem dX2_leastCommonMultiple_16 : decode cX2_leastCommonMultiple 16 = .ok (.ifCond .ne 8, 3) := by decide +kernel
theorem dX2_leastCommonMultiple_19 : decode cX2_leastCommonMultiple 19 = .ok (.lload_n 0, 1) := by decide +kernel
theorem dX2_leastCommonMultiple_20 : decode cX2_leastCommonMultiple 20 = .ok (.iload_n 3, 1) := by decide +kernel
theorem dX2_leastCommonMultiple_21 : decode cX2_leastCommonMultiple 21 = .ok (.i2l, 1) := by decide +kernel
theorem dX2_leastCommonMultiple_22 : decode cX2_leastCommonMultiple 22 = .ok (.lmul, 1) := by decide +kernel
theorem dX2_leastCommonMultiple_23 : decode cX2_leastCommonMultiple 23 = .ok (.lreturn, 1) := by decide +kernel
theorem dX2_leastCommonMultiple_24 : decode cX2_leastCommonMultiple 24 = .ok (.iinc 3 1, 3) := by decide +kernel
theorem dX2_leastCommonMultiple_27 : decode cX2_leastCommonMultiple 27 = .ok (.goto (-25), 3) := by decide +kernel
theorem dX2_leastCommonMultiple_30 : decode cX2_leastCommonMultiple 30 = .ok (.lload_n 0, 1) := by decide +kernel
theorem dX2_leastCommonMultiple_31 : decode cX2_leastCommonMultiple 31 = .ok (.iload_n 2, 1) := by decide +kernel
theorem dX2_leastCommonMultiple_32 : decode cX2_leastCommonMultiple 32 = .ok (.i2l, 1) := by decide +kernel
theorem dX2_leastCommonMultiple_33 : decode cX2_leastCommonMultiple 33 = .ok (.lmul, 1) := by decide +kernel
theorem dX2_leastCommonMultiple_34 : decode cX2_leastCommonMultiple 34 = .ok (.lreturn, 1) := by decide +kernel
theorem dX2_isKind_0 : decode cX2_isKind 0 = .ok (.iload_n 0, 1) := by decide +kernel
theorem dX2_isKind_1 : decode cX2_isKind 1 = .ok (.ifCond .lt 12, 3) := by decide +kernel
theorem dX2_isKind_4 : decode cX2_isKind 4 = .ok (.iload_n 0, 1) := by decide +kernel
theorem dX2_isKind_5 : decode cX2_isKind 5 = .ok (.iconst 3, 1) := by decide +kernel
theorem dX2_isKind_6 : decode cX2_isKind 6 = .ok (.if_icmp .ge 7, 3) := by decide +kernel
theorem dX2_isKind_9 : decode cX2_isKind 9 = .ok (.iconst 1, 1) := by decide +kernel
theorem dX2_isKind_10 : decode cX2_isKind 10 = .ok (.goto 4, 3) := by decide +kernel
theorem dX2_isKind_13 : decode cX2_isKind 13 = .ok (.iconst 0, 1) := by decide +kernel
theorem dX2_isKind_14 : decode cX2_isKind 14 = .ok (.ireturn, 1) := by decide +kernel
set_option maxRecDepth 20000 in
theorem ggX2_requireKind_X2_isKind : GoodIn wsX2_requireKind wsX2_isKind := goodIn_r _ [6] (by decide +kernel) (by decide +kernel)
set_option maxRecDepth 20000 in
theorem gX2_requireKind_X2_isKind : GoodIn wsX2_requireKind (va_wsS RX2 43 yX2_isKind wsX2_isKind) := goodIn_app (goodIn_of _ (by decide +kernel)) ggX2_requireKind_X2_isKind
theorem dX2_requireKind_0 : decode cX2_requireKind 0 = .ok (.iload_n 0, 1) := by decide +kernel
theorem dX2_requireKind_1 : decode cX2_requireKind 1 = .ok (.invokestatic 43, 3) := by decide +kernel
theorem dX2_requireKind_4 : decode cX2_requireKind 4 = .ok (.ifCond .ne 13, 3) := by decide +kernel
theorem dX2_requireKind_7 : decode cX2_requireKind 7 = .ok (.new 81, 3) := by decide +kernel
theorem dX2_requireKind_10 : decode cX2_requireKind 10 = .ok (.dup, 1) := by decide +kernel
theorem dX2_requireKind_11 : decode cX2_requireKind 11 = .ok (.ldc 47, 2) := by decide +kernel
theorem dX2_requireKind_13 : decode cX2_requireKind 13 = .ok (.invokespecial 85, 3) := by decide +kernel
theorem dX2_requireKind_16 : decode cX2_requireKind 16 = .ok (.athrow, 1) := by decide +kernel
theorem dX2_requireKind_17 : decode cX2_requireKind 17 = .ok (.return_, 1) := by decide +kernel
theorem dX2_requireDelay_0 : decode cX2_requireDelay 0 = .ok (.iload_n 0, 1) := by decide +kernel
theorem dX2_requireDelay_1 : decode cX2_requireDelay 1 = .ok (.ifCond .lt 9, 3) := by decide +kernel
theorem dX2_requireDelay_4 : decode cX2_requireDelay 4 = .ok (.iload_n 0, 1) := by decide +kernel
theorem dX2_requireDelay_5 : decode cX2_requireDelay 5 = .ok (.bipush 12, 2) := by decide +kernel
theorem dX2_requireDelay_7 : decode cX2_requireDelay 7 = .ok (.if_icmp .le 13, 3) := by decide +kernel
theorem dX2_requireDelay_10 : decode cX2_requireDelay 10 = .ok (.new 29, 3) := by decide +kernel
theorem dX2_requireDelay_13 : decode cX2_requireDelay 13 = .ok (.dup, 1) := by decide +kernel
theorem dX2_requireDelay_14 : decode cX2_requireDelay 14 = .ok (.ldc 212, 2) := by decide +kernel
theorem dX2_requireDelay_16 : decode cX2_requireDelay 16 = .ok (.invokespecial 33, 3) := by decide +kernel
theorem dX2_requireDelay_19 : decode cX2_requireDelay 19 = .ok (.athrow, 1) := by decide +kernel
theorem dX2_requireDelay_20 : decode cX2_requireDelay 20 = .ok (.return_, 1) := by decide +kernel
theorem dX2_requireIterations_0 : decode cX2_requireIterations 0 = .ok (.iload_n 0, 1) := by decide +kernel
theorem dX2_requireIterations_1 : decode cX2_requireIterations 1 = .ok (.iconst 1, 1) := by decide +kernel
theorem dX2_requireIterations_2 : decode cX2_requireIterations 2 = .ok (.if_icmp .lt 10, 3) := by decide +kernel
theorem dX2_requireIterations_5 : decode cX2_requireIterations 5 = .ok (.iload_n 0, 1) := by decide +kernel
theorem dX2_requireIterations_6 : decode cX2_requireIterations 6 = .ok (.sipush 1000, 3) := by decide +kernel
theorem dX2_requireIterations_9 : decode cX2_requireIterations 9 = .ok (.if_icmp .le 13, 3) := by decide +kernel
theorem dX2_requireIterations_12 : decode cX2_requireIterations 12 = .ok (.new 29, 3) := by decide +kernel
theorem dX2_requireIterations_15 : decode cX2_requireIterations 15 = .ok (.dup, 1) := by decide +kernel
theorem dX2_requireIterations_16 : decode cX2_requireIterations 16 = .ok (.ldc 214, 2) := by decide +kernel
theorem dX2_requireIterations_18 : decode cX2_requireIterations 18 = .ok (.invokespecial 33, 3) := by decide +kernel
theorem dX2_requireIterations_21 : decode cX2_requireIterations 21 = .ok (.athrow, 1) := by decide +kernel
theorem dX2_requireIterations_22 : decode cX2_requireIterations 22 = .ok (.return_, 1) := by decide +kernel
theorem dX2_requireCycle_0 : decode cX2_requireCycle 0 = .ok (.iload_n 0, 1) := by decide +kernel
theorem dX2_requireCycle_1 : decode cX2_requireCycle 1 = .ok (.ifCond .ge 13, 3) := by decide +kernel
theorem dX2_requireCycle_4 : decode cX2_requireCycle 4 = .ok (.new 29, 3) := by decide +kernel
theorem dX2_requireCycle_7 : decode cX2_requireCycle 7 = .ok (.dup, 1) := by decide +kernel
theorem dX2_requireCycle_8 : decode cX2_requireCycle 8 = .ok (.ldc 216, 2) := by decide +kernel
theorem dX2_requireCycle_10 : decode cX2_requireCycle 10 = .ok (.invokespecial 33, 3) := by decide +kernel
theorem dX2_requireCycle_13 : decode cX2_requireCycle 13 = .ok (.athrow, 1) := by decide +kernel
theorem dX2_requireCycle_14 : decode cX2_requireCycle 14 = .ok (.return_, 1) := by decide +kernel
theorem dX2_requireOperation_0 : decode cX2_requireOperation 0 = .ok (.iload_n 1, 1) := by decide +kernel
theorem dX2_requireOperation_1 : decode cX2_requireOperation 1 = .ok (.ifCond .lt 14, 3) := by decide +kernel
theorem dX2_requireOperation_4 : decode cX2_requireOperation 4 = .ok (.iload_n 1, 1) := by decide +kernel
theorem dX2_requireOperation_5 : decode cX2_requireOperation 5 = .ok (.aload_n 0, 1) := by decide +kernel
theorem dX2_requireOperation_6 : decode cX2_requireOperation 6 = .ok (.getfield 10, 3) := by decide +kernel
theorem dX2_requireOperation_9 : decode cX2_requireOperation 9 = .ok (.getfield 51, 3) := by decide +kernel
theorem dX2_requireOperation_12 : decode cX2_requireOperation 12 = .ok (.if_icmp .lt 13, 3) := by decide +kernel
theorem dX2_requireOperation_15 : decode cX2_requireOperation 15 = .ok (.new 81, 3) := by decide +kernel
theorem dX2_requireOperation_18 : decode cX2_requireOperation 18 = .ok (.dup, 1) := by decide +kernel
theorem dX2_requireOperation_19 : decode cX2_requireOperation 19 = .ok (.ldc 218, 2) := by decide +kernel
theorem dX2_requireOperation_21 : decode cX2_requireOperation 21 = .ok (.invokespecial 85, 3) := by decide +kernel
theorem dX2_requireOperation_24 : decode cX2_requireOperation 24 = .ok (.athrow, 1) := by decide +kernel
theorem dX2_requireOperation_25 : decode cX2_requireOperation 25 = .ok (.return_, 1) := by decide +kernel
theorem dX2_requireSchedule_0 : decode cX2_requireSchedule 0 = .ok (.aload_n 0, 1) := by decide +kernel
theorem dX2_requireSchedule_1 : decode cX2_requireSchedule 1 = .ok (.getfield 21, 3) := by decide +kernel
theorem dX2_requireSchedule_4 : decode cX2_requireSchedule 4 = .ok (.getfield 117, 3) := by decide +kernel
theorem dX2_requireSchedule_7 : decode cX2_requireSchedule 7 = .ok (.iconst 1, 1) := by decide +kernel
theorem dX2_requireSchedule_8 : decode cX2_requireSchedule 8 = .ok (.if_icmp .ge 13, 3) := by decide +kernel
theorem dX2_requireSchedule_11 : decode cX2_requireSchedule 11 = .ok (.new 55, 3) := by decide +kernel
theorem dX2_requireSchedule_14 : decode cX2_requireSchedule 14 = .ok (.dup, 1) := by decide +kernel
theorem dX2_requireSchedule_15 : decode cX2_requireSchedule 15 = .ok (.ldc 220, 2) := by decide +kernel
theorem dX2_requireSchedule_17 : decode cX2_requireSchedule 17 = .ok (.invokespecial 59, 3) := by decide +kernel
theorem dX2_requireSchedule_20 : decode cX2_requireSchedule 20 = .ok (.athrow, 1) := by decide +kernel
theorem dX2_requireSchedule_21 : decode cX2_requireSchedule 21 = .ok (.return_, 1) := by decide +kernel
theorem dX2_requireRow_0 : decode cX2_requireRow 0 = .ok (.iload_n 1, 1) := by decide +kernel
theorem dX2_requireRow_1 : decode cX2_requireRow 1 = .ok (.ifCond .lt 14, 3) := by decide +kernel
theorem dX2_requireRow_4 : decode cX2_requireRow 4 = .ok (.iload_n 1, 1) := by decide +kernel
theorem dX2_requireRow_5 : decode cX2_requireRow 5 = .ok (.aload_n 0, 1) := by decide +kernel
theorem dX2_requireRow_6 : decode cX2_requireRow 6 = .ok (.getfield 21, 3) := by decide +kernel
theorem dX2_requireRow_9 : decode cX2_requireRow 9 = .ok (.getfield 117, 3) := by decide +kernel
theorem dX2_requireRow_12 : decode cX2_requireRow 12 = .ok (.if_icmp .lt 13, 3) := by decide +kernel
theorem dX2_requireRow_15 : decode cX2_requireRow 15 = .ok (.new 29, 3) := by decide +kernel
theorem dX2_requireRow_18 : decode cX2_requireRow 18 = .ok (.dup, 1) := by decide +kernel
theorem dX2_requireRow_19 : decode cX2_requireRow 19 = .ok (.ldc 222, 2) := by decide +kernel
theorem dX2_requireRow_21 : decode cX2_requireRow 21 = .ok (.invokespecial 33, 3) := by decide +kernel
theorem dX2_requireRow_24 : decode cX2_requireRow 24 = .ok (.athrow, 1) := by decide +kernel
theorem dX2_requireRow_25 : decode cX2_requireRow 25 = .ok (.return_, 1) := by decide +kernel
end
section
theorem dX3_init_0 : decode cX3_init 0 = .ok (.aload_n 0, 1) := by decide +kernel
theorem dX3_init_1 : decode cX3_init 1 = .ok (.invokespecial 1, 3) := by decide +kernel
theorem dX3_init_4 : decode cX3_init 4 = .ok (.aload_n 0, 1) := by decide +kernel
theorem dX3_init_5 : decode cX3_init 5 = .ok (.iconst 3, 1) := by decide +kernel
theorem dX3_init_6 : decode cX3_init 6 = .ok (.newarray .int, 2) := by decide +kernel
theorem dX3_init_8 : decode cX3_init 8 = .ok (.dup, 1) := by decide +kernel
theorem dX3_init_9 : decode cX3_init 9 = .ok (.iconst 0, 1) := by decide +kernel
theorem dX3_init_10 : decode cX3_init 10 = .ok (.iconst 1, 1) := by decide +kernel
theorem dX3_init_11 : decode cX3_init 11 = .ok (.iastore, 1) := by decide +kernel
theorem dX3_init_12 : decode cX3_init 12 = .ok (.dup, 1) := by decide +kernel
theorem dX3_init_13 : decode cX3_init 13 = .ok (.iconst 1, 1) := by decide +kernel
theorem dX3_init_14 : decode cX3_init 14 = .ok (.iconst 1, 1) := by decide +kernel
theorem dX3_init_15 : decode cX3_init 15 = .ok (.iastore, 1) := by decide +kernel
theorem dX3_init_16 : decode cX3_init 16 = .ok (.dup, 1) := by decide +kernel
theorem dX3_init_17 : decode cX3_init 17 = .ok (.iconst 2, 1) := by decide +kernel
theorem dX3_init_18 : decode cX3_init 18 = .ok (.iconst 1, 1) := by decide +kernel
theorem dX3_init_19 : decode cX3_init 19 = .ok (.iastore, 1) := by decide +kernel
theorem dX3_init_20 : decode cX3_init 20 = .ok (.putfield 7, 3) := by decide +kernel
theorem dX3_init_23 : decode cX3_init 23 = .ok (.aload_n 0, 1) := by decide +kernel
theorem dX3_init_24 : decode cX3_init 24 = .ok (.bipush 14, 2) := by decide +kernel
theorem dX3_init_26 : decode cX3_init 26 = .ok (.newarray .int, 2) := by decide +kernel
theorem dX3_init_28 : decode cX3_init 28 = .ok (.putfield 13, 3) := by decide +kernel
theorem dX3_init_31 : decode cX3_init 31 = .ok (.aload_n 0, 1) := by decide +kernel
theorem dX3_init_32 : decode cX3_init 32 = .ok (.bipush 14, 2) := by decide +kernel
theorem dX3_init_34 : decode cX3_init 34 = .ok (.newarray .int, 2) := by decide +kernel
theorem dX3_init_36 : decode cX3_init 36 = .ok (.putfield 16, 3) := by decide +kernel
theorem dX3_init_39 : decode cX3_init 39 = .ok (.aload_n 0, 1) := by decide +kernel
theorem dX3_init_40 : decode cX3_init 40 = .ok (.bipush 40, 2) := by decide +kernel
theorem dX3_init_42 : decode cX3_init 42 = .ok (.newarray .int, 2) := by decide +kernel
theorem dX3_init_44 : decode cX3_init 44 = .ok (.putfield 19, 3) := by decide +kernel
theorem dX3_init_47 : decode cX3_init 47 = .ok (.aload_n 0, 1) := by decide +kernel
theorem dX3_init_48 : decode cX3_init 48 = .ok (.bipush 40, 2) := by decide +kernel
theorem dX3_init_50 : decode cX3_init 50 = .ok (.newarray .int, 2) := by decide +kernel
theorem dX3_init_52 : decode cX3_init 52 = .ok (.putfield 22, 3) := by decide +kernel
theorem dX3_init_55 : decode cX3_init 55 = .ok (.aload_n 0, 1) := by decide +kernel
theorem dX3_init_56 : decode cX3_init 56 = .ok (.bipush 40, 2) := by decide +kernel
theorem dX3_init_58 : decode cX3_init 58 = .ok (.newarray .int, 2) := by decide +kernel
theorem dX3_init_60 : decode cX3_init 60 = .ok (.putfield 25, 3) := by decide +kernel
theorem dX3_init_63 : decode cX3_init 63 = .ok (.aload_n 0, 1) := by decide +kernel
theorem dX3_init_64 : decode cX3_init 64 = .ok (.bipush 40, 2) := by decide +kernel
theorem dX3_init_66 : decode cX3_init 66 = .ok (.newarray .int, 2) := by decide +kernel
theorem dX3_init_68 : decode cX3_init 68 = .ok (.putfield 28, 3) := by decide +kernel
theorem dX3_init_71 : decode cX3_init 71 = .ok (.aload_n 0, 1) := by decide +kernel
theorem dX3_init_72 : decode cX3_init 72 = .ok (.bipush 14, 2) := by decide +kernel
theorem dX3_init_74 : decode cX3_init 74 = .ok (.newarray .int, 2) := by decide +kernel
theorem dX3_init_76 : decode cX3_init 76 = .ok (.putfield 31, 3) := by decide +kernel
theorem dX3_init_79 : decode cX3_init 79 = .ok (.aload_n 0, 1) := by decide +kernel
theorem dX3_init_80 : decode cX3_init 80 = .ok (.bipush 14, 2) := by decide +kernel
theorem dX3_init_82 : decode cX3_init 82 = .ok (.newarray .int, 2) := by decide +kernel
theorem dX3_init_84 : decode cX3_init 84 = .ok (.putfield 34, 3) := by decide +kernel
theorem dX3_init_87 : decode cX3_init 87 = .ok (.aload_n 0, 1) := by decide +kernel
theorem dX3_init_88 : decode cX3_init 88 = .ok (.bipush 14, 2) := by decide +kernel
theorem dX3_init_90 : decode cX3_init 90 = .ok (.newarray .boolean, 2) := by decide +kernel
theorem dX3_init_92 : decode cX3_init 92 = .ok (.putfield 37, 3) := by decide +kernel
theorem dX3_init_95 : decode cX3_init 95 = .ok (.aload_n 0, 1) := by decide +kernel
theorem dX3_init_96 : decode cX3_init 96 = .ok (.sipush 600, 3) := by decide +kernel
theorem dX3_init_99 : decode cX3_init 99 = .ok (.newarray .int, 2) := by decide +kernel
theorem dX3_init_101 : decode cX3_init 101 = .ok (.putfield 41, 3) := by decide +kernel
theorem dX3_init_104 : decode cX3_init 104 = .ok (.return_, 1) := by decide +kernel
theorem dX3_thrown_0 : decode cX3_thrown 0 = .ok (.aload_n 0, 1) := by decide +kernel
theorem dX3_thrown_1 : decode cX3_thrown 1 = .ok (.getfield 44, 3) := by decide +kernel
theorem dX3_thrown_4 : decode cX3_thrown 4 = .ok (.ireturn, 1) := by decide +kernel
theorem dX3_no_0 : decode cX3_no 0 = .ok (.aload_n 0, 1) := by decide +kernel
theorem dX3_no_1 : decode cX3_no 1 = .ok (.iload_n 1, 1) := by decide +kernel
theorem dX3_no_2 : decode cX3_no 2 = .ok (.putfield 44, 3) := by decide +kernel
theorem dX3_no_5 : decode cX3_no 5 = .ok (.iconst 0, 1) := by decide +kernel
theorem dX3_no_6 : decode cX3_no 6 = .ok (.ireturn, 1) := by decide +kernel
theorem dX3_isIn_0 : decode cX3_isIn 0 = .ok (.iload_n 0, 1) := by decide +kernel
theorem dX3_isIn_1 : decode cX3_isIn 1 = .ok (.iload_n 1, 1) := by decide +kernel
theorem dX3_isIn_2 : decode cX3_isIn 2 = .ok (.if_icmp .lt 12, 3) := by decide +kernel
theorem dX3_isIn_5 : decode cX3_isIn 5 = .ok (.iload_n 0, 1) := by decide +kernel
theorem dX3_isIn_6 : decode cX3_isIn 6 = .ok (.iload_n 2, 1) := by decide +kernel
theorem dX3_isIn_7 : decode cX3_isIn 7 = .ok (.if_icmp .gt 7, 3) := by decide +kernel
theorem dX3_isIn_10 : decode cX3_isIn 10 = .ok (.iconst 1, 1) := by decide +kernel
theorem dX3_isIn_11 : decode cX3_isIn 11 = .ok (.goto 4, 3) := by decide +kernel
theorem dX3_isIn_14 : decode cX3_isIn 14 = .ok (.iconst 0, 1) := by decide +kernel
theorem dX3_isIn_15 : decode cX3_isIn 15 = .ok (.ireturn, 1) := by decide +kernel
set_option maxRecDepth 20000 in
theorem ggX3_isOperation_X3_isIn : GoodIn wsX3_isOperation wsX3_isIn := goodIn_r _ [5] (by decide +kernel) (by decide +kernel)
set_option maxRecDepth 20000 in
theorem gX3_isOperation_X3_isIn : GoodIn wsX3_isOperation (va_wsS RX3 51 yX3_isIn wsX3_isIn) := goodIn_app (goodIn_of _ (by decide +kernel)) ggX3_isOperation_X3_isIn
theorem dX3_isOperation_0 : decode cX3_isOperation 0 = .ok (.iload_n 1, 1) := by decide +kernel
theorem dX3_isOperation_1 : decode cX3_isOperation 1 = .ok (.iconst 0, 1) := by decide +kernel
theorem dX3_isOperation_2 : decode cX3_isOperation 2 = .ok (.aload_n 0, 1) := by decide +kernel
theorem dX3_isOperation_3 : decode cX3_isOperation 3 = .ok (.getfield 48, 3) := by decide +kernel
theorem dX3_isOperation_6 : decode cX3_isOperation 6 = .ok (.iconst 1, 1) := by decide +kernel
theorem dX3_isOperation_7 : decode cX3_isOperation 7 = .ok (.isub, 1) := by decide +kernel
theorem dX3_isOperation_8 : decode cX3_isOperation 8 = .ok (.invokestatic 51, 3) := by decide +kernel
theorem dX3_isOperation_11 : decode cX3_isOperation 11 = .ok (.ireturn, 1) := by decide +kernel
set_option maxRecDepth 20000 in
theorem ggX3_setUnits_X3_isIn : GoodIn wsX3_setUnits wsX3_isIn := goodIn_r _ [7] (by decide +kernel) (by decide +kernel)
set_option maxRecDepth 20000 in
theorem gX3_setUnits_X3_isIn : GoodIn wsX3_setUnits (va_wsS RX3 51 yX3_isIn wsX3_isIn) := goodIn_app (goodIn_of _ (by decide +kernel)) ggX3_setUnits_X3_isIn
set_option maxRecDepth 20000 in
theorem ggX3_setUnits_X3_no : GoodIn wsX3_setUnits wsX3_no := goodIn_r _ [11, 1, 12, 13, 14, 15, 16, 17, 18, 19, 20, 21, 22, 23, 24, 25, 26, 27] (by decide +kernel) (by decide +kernel)
set_option maxRecDepth 20000 in
theorem gX3_setUnits_X3_no : GoodIn wsX3_setUnits (wsV RX3 55 RX3 yX3_no wsX3_no) := goodIn_app (goodIn_of _ (by decide +kernel)) ggX3_setUnits_X3_no
theorem dX3_setUnits_0 : decode cX3_setUnits 0 = .ok (.aload_n 0, 1) := by decide +kernel
theorem dX3_setUnits_1 : decode cX3_setUnits 1 = .ok (.iconst 0, 1) := by decide +kernel
theorem dX3_setUnits_2 : decode cX3_setUnits 2 = .ok (.putfield 44, 3) := by decide +kernel
theorem dX3_setUnits_5 : decode cX3_setUnits 5 = .ok (.iload_n 1, 1) := by decide +kernel
theorem dX3_setUnits_6 : decode cX3_setUnits 6 = .ok (.iconst 0, 1) := by decide +kernel
theorem dX3_setUnits_7 : decode cX3_setUnits 7 = .ok (.iconst 2, 1) := by decide +kernel
theorem dX3_setUnits_8 : decode cX3_setUnits 8 = .ok (.invokestatic 51, 3) := by decide +kernel
theorem dX3_setUnits_11 : decode cX3_setUnits 11 = .ok (.ifCond .ne 9, 3) := by decide +kernel
theorem dX3_setUnits_14 : decode cX3_setUnits 14 = .ok (.aload_n 0, 1) := by decide +kernel
theorem dX3_setUnits_15 : decode cX3_setUnits 15 = .ok (.iconst 1, 1) := by decide +kernel
theorem dX3_setUnits_16 : decode cX3_setUnits 16 = .ok (.invokevirtual 55, 3) := by decide +kernel
theorem dX3_setUnits_19 : decode cX3_setUnits 19 = .ok (.ireturn, 1) := by decide +kernel
theorem dX3_setUnits_20 : decode cX3_setUnits 20 = .ok (.iload_n 2, 1) := by decide +kernel
theorem dX3_setUnits_21 : decode cX3_setUnits 21 = .ok (.iconst 1, 1) := by decide +kernel
theorem dX3_setUnits_22 : decode cX3_setUnits 22 = .ok (.iconst 3, 1) := by decide +kernel
theorem dX3_setUnits_23 : decode cX3_setUnits 23 = .ok (.invokestatic 51, 3) := by decide +kernel
theorem dX3_setUnits_26 : decode cX3_setUnits 26 = .ok (.ifCond .ne 9, 3) := by decide +kernel
theorem dX3_setUnits_29 : decode cX3_setUnits 29 = .ok (.aload_n 0, 1) := by decide +kernel
theorem dX3_setUnits_30 : decode cX3_setUnits 30 = .ok (.iconst 2, 1) := by decide +kernel
theorem dX3_setUnits_31 : decode cX3_setUnits 31 = .ok (.invokevirtual 55, 3) := by decide +kernel
theorem dX3_setUnits_34 : decode cX3_setUnits 34 = .ok (.ireturn, 1) := by decide +kernel
theorem dX3_setUnits_35 : decode cX3_setUnits 35 = .ok (.aload_n 0, 1) := by decide +kernel
theorem dX3_setUnits_36 : decode cX3_setUnits 36 = .ok (.getfield 7, 3) := by decide +kernel
theorem dX3_setUnits_39 : decode cX3_setUnits 39 = .ok (.iload_n 1, 1) := by decide +kernel
theorem dX3_setUnits_40 : decode cX3_setUnits 40 = .ok (.iaload, 1) := by decide +kernel
theorem dX3_setUnits_41 : decode cX3_setUnits 41 = .ok (.istore_n 3, 1) := by decide +kernel
theorem dX3_setUnits_42 : decode cX3_setUnits 42 = .ok (.aload_n 0, 1) := by decide +kernel
theorem dX3_setUnits_43 : decode cX3_setUnits 43 = .ok (.getfield 7, 3) := by decide +kernel
theorem dX3_setUnits_46 : decode cX3_setUnits 46 = .ok (.iload_n 1, 1) := by decide +kernel
theorem dX3_setUnits_47 : decode cX3_setUnits 47 = .ok (.iload_n 2, 1) := by decide +kernel
theorem dX3_setUnits_48 : decode cX3_setUnits 48 = .ok (.iastore, 1) := by decide +kernel
theorem dX3_setUnits_49 : decode cX3_setUnits 49 = .ok (.aload_n 0, 1) := by decide +kernel
theorem dX3_setUnits_50 : decode cX3_setUnits 50 = .ok (.iconst 0, 1) := by decide +kernel
theorem dX3_setUnits_51 : decode cX3_setUnits 51 = .ok (.putfield 59, 3) := by decide +kernel
theorem dX3_setUnits_54 : decode cX3_setUnits 54 = .ok (.iload_n 3, 1) := by decide +kernel
theorem dX3_setUnits_55 : decode cX3_setUnits 55 = .ok (.ireturn, 1) := by decide +kernel
set_option maxRecDepth 20000 in
theorem ggX3_addOperation_X3_isIn : GoodIn wsX3_addOperation wsX3_isIn := goodIn_r _ [9] (by decide +kernel) (by decide +kernel)
set_option maxRecDepth 20000 in
theorem gX3_addOperation_X3_isIn : GoodIn wsX3_addOperation (va_wsS RX3 51 yX3_isIn wsX3_isIn) := goodIn_app (goodIn_of _ (by decide +kernel)) ggX3_addOperation_X3_isIn
set_option maxRecDepth 20000 in
theorem ggX3_addOperation_X3_no : GoodIn wsX3_addOperation wsX3_no := goodIn_r _ [13, 1, 14, 15, 16, 17, 18, 19, 20, 21, 22, 23, 24, 25, 26, 27, 28, 29] (by decide +kernel) (by decide +kernel)
set_option maxRecDepth 20000 in
theorem gX3_addOperation_X3_no : GoodIn wsX3_addOperation (wsV RX3 55 RX3 yX3_no wsX3_no) := goodIn_app (goodIn_of _ (by decide +kernel)) ggX3_addOperation_X3_no
theorem dX3_addOperation_0 : decode cX3_addOperation 0 = .ok (.aload_n 0, 1) := by decide +kernel
theorem dX3_addOperation_1 : decode cX3_addOperation 1 = .ok (.iconst 0, 1) := by decide +kernel
theorem dX3_addOperation_2 : decode cX3_addOperation 2 = .ok (.putfield 44, 3) := by decide +kernel
theorem dX3_addOperation_5 : decode cX3_addOperation 5 = .ok (.iload_n 1, 1) := by decide +kernel
theorem dX3_addOperation_6 : decode cX3_addOperation 6 = .ok (.iconst 0, 1) := by decide +kernel
theorem dX3_addOperation_7 : decode cX3_addOperation 7 = .ok (.iconst 2, 1) := by decide +kernel
theorem dX3_addOperation_8 : decode cX3_addOperation 8 = .ok (.invokestatic 51, 3) := by decide +kernel
theorem dX3_addOperation_11 : decode cX3_addOperation 11 = .ok (.ifCond .eq 12, 3) := by decide +kernel
theorem dX3_addOperation_14 : decode cX3_addOperation 14 = .ok (.iload_n 2, 1) := by decide +kernel
theorem dX3_addOperation_15 : decode cX3_addOperation 15 = .ok (.iconst 1, 1) := by decide +kernel
theorem dX3_addOperation_16 : decode cX3_addOperation 16 = .ok (.iconst 4, 1) := by decide +kernel
theorem dX3_addOperation_17 : decode cX3_addOperation 17 = .ok (.invokestatic 51, 3) := by decide +kernel
theorem dX3_addOperation_20 : decode cX3_addOperation 20 = .ok (.ifCond .ne 9, 3) := by decide +kernel
theorem dX3_addOperation_23 : decode cX3_addOperation 23 = .ok (.aload_n 0, 1) := by decide +kernel
theorem dX3_addOperation_24 : decode cX3_addOperation 24 = .ok (.iconst 1, 1) := by decide +kernel
theorem dX3_addOperation_25 : decode cX3_addOperation 25 = .ok (.invokevirtual 55, 3) := by decide +kernel
theorem dX3_addOperation_28 : decode cX3_addOperation 28 = .ok (.ireturn, 1) := by decide +kernel
theorem dX3_addOperation_29 : decode cX3_addOperation 29 = .ok (.aload_n 0, 1) := by decide +kernel
theorem dX3_addOperation_30 : decode cX3_addOperation 30 = .ok (.getfield 48, 3) := by decide +kernel
theorem dX3_addOperation_33 : decode cX3_addOperation 33 = .ok (.bipush 14, 2) := by decide +kernel
theorem dX3_addOperation_35 : decode cX3_addOperation 35 = .ok (.if_icmp .ne 9, 3) := by decide +kernel
theorem dX3_addOperation_38 : decode cX3_addOperation 38 = .ok (.aload_n 0, 1) := by decide +kernel
theorem dX3_addOperation_39 : decode cX3_addOperation 39 = .ok (.iconst 2, 1) := by decide +kernel
theorem dX3_addOperation_40 : decode cX3_addOperation 40 = .ok (.invokevirtual 55, 3) := by decide +kernel
theorem dX3_addOperation_43 : decode cX3_addOperation 43 = .ok (.ireturn, 1) := by decide +kernel
theorem dX3_addOperation_44 : decode cX3_addOperation 44 = .ok (.aload_n 0, 1) := by decide +kernel
theorem dX3_addOperation_45 : decode cX3_addOperation 45 = .ok (.getfield 13, 3) := by decide +kernel
theorem dX3_addOperation_48 : decode cX3_addOperation 48 = .ok (.aload_n 0, 1) := by decide +kernel
theorem dX3_addOperation_49 : decode cX3_addOperation 49 = .ok (.getfield 48, 3) := by decide +kernel
theorem dX3_addOperation_52 : decode cX3_addOperation 52 = .ok (.iload_n 1, 1) := by decide +kernel
theorem dX3_addOperation_53 : decode cX3_addOperation 53 = .ok (.iastore, 1) := by decide +kernel
theorem dX3_addOperation_54 : decode cX3_addOperation 54 = .ok (.aload_n 0, 1) := by decide +kernel
theorem dX3_addOperation_55 : decode cX3_addOperation 55 = .ok (.getfield 16, 3) := by decide +kernel
theorem dX3_addOperation_58 : decode cX3_addOperation 58 = .ok (.aload_n 0, 1) := by decide +kernel
theorem dX3_addOperation_59 : decode cX3_addOperation 59 = .ok (.getfield 48, 3) := by decide +kernel
theorem dX3_addOperation_62 : decode cX3_addOperation 62 = .ok (.iload_n 2, 1) := by decide +kernel
theorem dX3_addOperation_63 : decode cX3_addOperation 63 = .ok (.iastore, 1) := by decide +kernel
theorem dX3_addOperation_64 : decode cX3_addOperation 64 = .ok (.aload_n 0, 1) := by decide +kernel
theorem dX3_addOperation_65 : decode cX3_addOperation 65 = .ok (.dup, 1) := by decide +kernel
theorem dX3_addOperation_66 : decode cX3_addOperation 66 = .ok (.getfield 48, 3) := by decide +kernel
theorem dX3_addOperation_69 : decode cX3_addOperation 69 = .ok (.iconst 1, 1) := by decide +kernel
theorem dX3_addOperation_70 : decode cX3_addOperation 70 = .ok (.iadd, 1) := by decide +kernel
theorem dX3_addOperation_71 : decode cX3_addOperation 71 = .ok (.putfield 48, 3) := by decide +kernel
theorem dX3_addOperation_74 : decode cX3_addOperation 74 = .ok (.aload_n 0, 1) := by decide +kernel
theorem dX3_addOperation_75 : decode cX3_addOperation 75 = .ok (.iconst 0, 1) := by decide +kernel
theorem dX3_addOperation_76 : decode cX3_addOperation 76 = .ok (.putfield 59, 3) := by decide +kernel
theorem dX3_addOperation_79 : decode cX3_addOperation 79 = .ok (.aload_n 0, 1) := by decide +kernel
theorem dX3_addOperation_80 : decode cX3_addOperation 80 = .ok (.getfield 48, 3) := by decide +kernel
theorem dX3_addOperation_83 : decode cX3_addOperation 83 = .ok (.iconst 1, 1) := by decide +kernel
theorem dX3_addOperation_84 : decode cX3_addOperation 84 = .ok (.isub, 1) := by decide +kernel
theorem dX3_addOperation_85 : decode cX3_addOperation 85 = .ok (.ireturn, 1) := by decide +kernel
set_option maxRecDepth 20000 in
theorem ggX3_addDependence_X3_isOperation : GoodIn wsX3_addDependence wsX3_isOperation := goodIn_r _ [12, 13, 14, 15, 11, 16, 21, 22, 23, 24, 25, 26, 27, 28, 29, 30, 31, 32, 33, 34, 35, 36] (by decide +kernel) (by decide +kernel)
set_option maxRecDepth 20000 in
theorem gX3_addDependence_X3_isOperation : GoodIn wsX3_addDependence (wsV RX3 62 RX3 yX3_isOperation wsX3_isOperation) := goodIn_app (goodIn_of _ (by decide +kernel)) ggX3_addDependence_X3_isOperation
set_option maxRecDepth 20000 in
theorem ggX3_addDependence_X3_no : GoodIn wsX3_addDependence wsX3_no := goodIn_r _ [20, 1, 21, 22, 23, 24, 25, 26, 27, 28, 29, 30, 31, 32, 33, 34, 35, 36] (by decide +kernel) (by decide +kernel)
set_option maxRecDepth 20000 in
theorem gX3_addDependence_X3_no : GoodIn wsX3_addDependence (wsV RX3 55 RX3 yX3_no wsX3_no) := goodIn_app (goodIn_of _ (by decide +kernel)) ggX3_addDependence_X3_no
set_option maxRecDepth 20000 in
theorem ggX3_addDependence_X3_isIn : GoodIn wsX3_addDependence wsX3_isIn := goodIn_r _ [16] (by decide +kernel) (by decide +kernel)
set_option maxRecDepth 20000 in
theorem gX3_addDependence_X3_isIn : GoodIn wsX3_addDependence (va_wsS RX3 51 yX3_isIn wsX3_isIn) := goodIn_app (goodIn_of _ (by decide +kernel)) ggX3_addDependence_X3_isIn
theorem dX3_addDependence_0 : decode cX3_addDependence 0 = .ok (.aload_n 0, 1) := by decide +kernel
theorem dX3_addDependence_1 : decode cX3_addDependence 1 = .ok (.iconst 0, 1) := by decide +kernel
theorem dX3_addDependence_2 : decode cX3_addDependence 2 = .ok (.putfield 44, 3) := by decide +kernel
theorem dX3_addDependence_5 : decode cX3_addDependence 5 = .ok (.aload_n 0, 1) := by decide +kernel
theorem dX3_addDependence_6 : decode cX3_addDependence 6 = .ok (.iload_n 1, 1) := by decide +kernel
theorem dX3_addDependence_7 : decode cX3_addDependence 7 = .ok (.invokevirtual 62, 3) := by decide +kernel
theorem dX3_addDependence_10 : decode cX3_addDependence 10 = .ok (.ifCond .eq 11, 3) := by decide +kernel
theorem dX3_addDependence_13 : decode cX3_addDependence 13 = .ok (.aload_n 0, 1) := by decide +kernel
theorem dX3_addDependence_14 : decode cX3_addDependence 14 = .ok (.iload_n 2, 1) := by decide +kernel
theorem dX3_addDependence_15 : decode cX3_addDependence 15 = .ok (.invokevirtual 62, 3) := by decide +kernel
theorem dX3_addDependence_18 : decode cX3_addDependence 18 = .ok (.ifCond .ne 9, 3) := by decide +kernel
theorem dX3_addDependence_21 : decode cX3_addDependence 21 = .ok (.aload_n 0, 1) := by decide +kernel
theorem dX3_addDependence_22 : decode cX3_addDependence 22 = .ok (.iconst 1, 1) := by decide +kernel
theorem dX3_addDependence_23 : decode cX3_addDependence 23 = .ok (.invokevirtual 55, 3) := by decide +kernel
theorem dX3_addDependence_26 : decode cX3_addDependence 26 = .ok (.ireturn, 1) := by decide +kernel
theorem dX3_addDependence_27 : decode cX3_addDependence 27 = .ok (.iload_n 3, 1) := by decide +kernel
theorem dX3_addDependence_28 : decode cX3_addDependence 28 = .ok (.iconst 0, 1) := by decide +kernel
theorem dX3_addDependence_29 : decode cX3_addDependence 29 = .ok (.bipush 12, 2) := by decide +kernel
theorem dX3_addDependence_31 : decode cX3_addDependence 31 = .ok (.invokestatic 51, 3) := by decide +kernel
theorem dX3_addDependence_34 : decode cX3_addDependence 34 = .ok (.ifCond .eq 13, 3) := by decide +kernel
theorem dX3_addDependence_37 : decode cX3_addDependence 37 = .ok (.iload 4, 2) := by decide +kernel
theorem dX3_addDependence_39 : decode cX3_addDependence 39 = .ok (.iconst 0, 1) := by decide +kernel
theorem dX3_addDependence_40 : decode cX3_addDependence 40 = .ok (.iconst 3, 1) := by decide +kernel
theorem dX3_addDependence_41 : decode cX3_addDependence 41 = .ok (.invokestatic 51, 3) := by decide +kernel
theorem dX3_addDependence_44 : decode cX3_addDependence 44 = .ok (.ifCond .ne 9, 3) := by decide +kernel
theorem dX3_addDependence_47 : decode cX3_addDependence 47 = .ok (.aload_n 0, 1) := by decide +kernel
theorem dX3_addDependence_48 : decode cX3_addDependence 48 = .ok (.iconst 2, 1) := by decide +kernel
theorem dX3_addDependence_49 : decode cX3_addDependence 49 = .ok (.invokevirtual 55, 3) := by decide +kernel
theorem dX3_addDependence_52 : decode cX3_addDependence 52 = .ok (.ireturn, 1) := by decide +kernel
theorem dX3_addDependence_53 : decode cX3_addDependence 53 = .ok (.aload_n 0, 1) := by decide +kernel
theorem dX3_addDependence_54 : decode cX3_addDependence 54 = .ok (.getfield 66, 3) := by decide +kernel
theorem dX3_addDependence_57 : decode cX3_addDependence 57 = .ok (.bipush 40, 2) := by decide +kernel
theorem dX3_addDependence_59 : decode cX3_addDependence 59 = .ok (.if_icmp .ne 9, 3) := by decide +kernel
theorem dX3_addDependence_62 : decode cX3_addDependence 62 = .ok (.aload_n 0, 1) := by decide +kernel
theorem dX3_addDependence_63 : decode cX3_addDependence 63 = .ok (.iconst 3, 1) := by decide +kernel
theorem dX3_addDependence_64 : decode cX3_addDependence 64 = .ok (.invokevirtual 55, 3) := by decide +kernel
theorem dX3_addDependence_67 : decode cX3_addDependence 67 = .ok (.ireturn, 1) := by decide +kernel
theorem dX3_addDependence_68 : decode cX3_addDependence 68 = .ok (.aload_n 0, 1) := by decide +kernel
theorem dX3_addDependence_69 : decode cX3_addDependence 69 = .ok (.getfield 19, 3) := by decide +kernel
theorem dX3_addDependence_72 : decode cX3_addDependence 72 = .ok (.aload_n 0, 1) := by decide +kernel
theorem dX3_addDependence_73 : decode cX3_addDependence 73 = .ok (.getfield 66, 3) := by decide +kernel
theorem dX3_addDependence_76 : decode cX3_addDependence 76 = .ok (.iload_n 1, 1) := by decide +kernel
theorem dX3_addDependence_77 : decode cX3_addDependence 77 = .ok (.iastore, 1) := by decide +kernel
theorem dX3_addDependence_78 : decode cX3_addDependence 78 = .ok (.aload_n 0, 1) := by decide +kernel
theorem dX3_addDependence_79 : decode cX3_addDependence 79 = .ok (.getfield 22, 3) := by decide +kernel
theorem dX3_addDependence_82 : decode cX3_addDependence 82 = .ok (.aload_n 0, 1) := by decide +kernel
theorem dX3_addDependence_83 : decode cX3_addDependence 83 = .ok (.getfield 66, 3) := by decide +kernel
theorem dX3_addDependence_86 : decode cX3_addDependence 86 = .ok (.iload_n 2, 1) := by decide +kernel
theorem dX3_addDependence_87 : decode cX3_addDependence 87 = .ok (.iastore, 1) := by decide +kernel
theorem dX3_addDependence_88 : decode cX3_addDependence 88 = .ok (.aload_n 0, 1) := by decide +kernel
theorem dX3_addDependence_89 : decode cX3_addDependence 89 = .ok (.getfield 25, 3) := by decide +kernel
theorem dX3_addDependence_92 : decode cX3_addDependence 92 = .ok (.aload_n 0, 1) := by decide +kernel
theorem dX3_addDependence_93 : decode cX3_addDependence 93 = .ok (.getfield 66, 3) := by decide +kernel
theorem dX3_addDependence_96 : decode cX3_addDependence 96 = .ok (.iload_n 3, 1) := by decide +kernel
theorem dX3_addDependence_97 : decode cX3_addDependence 97 = .ok (.iastore, 1) := by decide +kernel
theorem dX3_addDependence_98 : decode cX3_addDependence 98 = .ok (.aload_n 0, 1) := by decide +kernel
theorem dX3_addDependence_99 : decode cX3_addDependence 99 = .ok (.getfield 28, 3) := by decide +kernel
theorem dX3_addDependence_102 : decode cX3_addDependence 102 = .ok (.aload_n 0, 1) := by decide +kernel
theorem dX3_addDependence_103 : decode cX3_addDependence 103 = .ok (.getfield 66, 3) := by decide +kernel
theorem dX3_addDependence_106 : decode cX3_addDependence 106 = .ok (.iload 4, 2) := by decide +kernel
theorem dX3_addDependence_108 : decode cX3_addDependence 108 = .ok (.iastore, 1) := by decide +kernel
theorem dX3_addDependence_109 : decode cX3_addDependence 109 = .ok (.aload_n 0, 1) := by decide +kernel
theorem dX3_addDependence_110 : decode cX3_addDependence 110 = .ok (.dup, 1) := by decide +kernel
theorem dX3_addDependence_111 : decode cX3_addDependence 111 = .ok (.getfield 66, 3) := by decide +kernel
theorem dX3_addDependence_114 : decode cX3_addDependence 114 = .ok (.iconst 1, 1) := by decide +kernel
theorem dX3_addDependence_115 : decode cX3_addDependence 115 = .ok (.iadd, 1) := by decide +kernel
theorem dX3_addDependence_116 : decode cX3_addDependence 116 = .ok (.putfield 66, 3) := by decide +kernel
theorem dX3_addDependence_119 : decode cX3_addDependence 119 = .ok (.aload_n 0, 1) := by decide +kernel
theorem dX3_addDependence_120 : decode cX3_addDependence 120 = .ok (.iconst 0, 1) := by decide +kernel
theorem dX3_addDependence_121 : decode cX3_addDependence 121 = .ok (.putfield 59, 3) := by decide +kernel
theorem dX3_addDependence_124 : decode cX3_addDependence 124 = .ok (.aload_n 0, 1) := by decide +kernel
theorem dX3_addDependence_125 : decode cX3_addDependence 125 = .ok (.getfield 66, 3) := by decide +kernel
theorem dX3_addDependence_128 : decode cX3_addDependence 128 = .ok (.iconst 1, 1) := by decide +kernel
theorem dX3_addDependence_129 : decode cX3_addDependence 129 = .ok (.isub, 1) := by decide +kernel
theorem dX3_addDependence_130 : decode cX3_addDependence 130 = .ok (.ireturn, 1) := by decide +kernel
set_option maxRecDepth 20000 in
theorem ggX3_setDelay_X3_isIn : GoodIn wsX3_setDelay wsX3_isIn := goodIn_r _ [8] (by decide +kernel) (by decide +kernel)
set_option maxRecDepth 20000 in
theorem gX3_setDelay_X3_isIn : GoodIn wsX3_setDelay (va_wsS RX3 51 yX3_isIn wsX3_isIn) := goodIn_app (goodIn_of _ (by decide +kernel)) ggX3_setDelay_X3_isIn
set_option maxRecDepth 20000 in
theorem ggX3_setDelay_X3_no : GoodIn wsX3_setDelay wsX3_no := goodIn_r _ [12, 1, 13, 14, 15, 16, 17, 18, 19, 20, 21, 22, 23, 24, 25, 26, 27, 28] (by decide +kernel) (by decide +kernel)
set_option maxRecDepth 20000 in
theorem gX3_setDelay_X3_no : GoodIn wsX3_setDelay (wsV RX3 55 RX3 yX3_no wsX3_no) := goodIn_app (goodIn_of _ (by decide +kernel)) ggX3_setDelay_X3_no
theorem dX3_setDelay_0 : decode cX3_setDelay 0 = .ok (.aload_n 0, 1) := by decide +kernel
theorem dX3_setDelay_1 : decode cX3_setDelay 1 = .ok (.iconst 0, 1) := by decide +kernel
theorem dX3_setDelay_2 : decode cX3_setDelay 2 = .ok (.putfield 44, 3) := by decide +kernel
theorem dX3_setDelay_5 : decode cX3_setDelay 5 = .ok (.iload_n 1, 1) := by decide +kernel
theorem dX3_setDelay_6 : decode cX3_setDelay 6 = .ok (.iconst 0, 1) := by decide +kernel
theorem dX3_setDelay_7 : decode cX3_setDelay 7 = .ok (.aload_n 0, 1) := by decide +kernel
theorem dX3_setDelay_8 : decode cX3_setDelay 8 = .ok (.getfield 66, 3) := by decide +kernel
theorem dX3_setDelay_11 : decode cX3_setDelay 11 = .ok (.iconst 1, 1) := by decide +kernel
theorem dX3_setDelay_12 : decode cX3_setDelay 12 = .ok (.isub, 1) := by decide +kernel
theorem dX3_setDelay_13 : decode cX3_setDelay 13 = .ok (.invokestatic 51, 3) := by decide +kernel
theorem dX3_setDelay_16 : decode cX3_setDelay 16 = .ok (.ifCond .ne 9, 3) := by decide +kernel
theorem dX3_setDelay_19 : decode cX3_setDelay 19 = .ok (.aload_n 0, 1) := by decide +kernel
theorem dX3_setDelay_20 : decode cX3_setDelay 20 = .ok (.iconst 1, 1) := by decide +kernel
theorem dX3_setDelay_21 : decode cX3_setDelay 21 = .ok (.invokevirtual 55, 3) := by decide +kernel
theorem dX3_setDelay_24 : decode cX3_setDelay 24 = .ok (.ireturn, 1) := by decide +kernel
theorem dX3_setDelay_25 : decode cX3_setDelay 25 = .ok (.iload_n 2, 1) := by decide +kernel
theorem dX3_setDelay_26 : decode cX3_setDelay 26 = .ok (.iconst 0, 1) := by decide +kernel
theorem dX3_setDelay_27 : decode cX3_setDelay 27 = .ok (.bipush 12, 2) := by decide +kernel
theorem dX3_setDelay_29 : decode cX3_setDelay 29 = .ok (.invokestatic 51, 3) := by decide +kernel
theorem dX3_setDelay_32 : decode cX3_setDelay 32 = .ok (.ifCond .ne 9, 3) := by decide +kernel
theorem dX3_setDelay_35 : decode cX3_setDelay 35 = .ok (.aload_n 0, 1) := by decide +kernel
theorem dX3_setDelay_36 : decode cX3_setDelay 36 = .ok (.iconst 2, 1) := by decide +kernel
theorem dX3_setDelay_37 : decode cX3_setDelay 37 = .ok (.invokevirtual 55, 3) := by decide +kernel
theorem dX3_setDelay_40 : decode cX3_setDelay 40 = .ok (.ireturn, 1) := by decide +kernel
theorem dX3_setDelay_41 : decode cX3_setDelay 41 = .ok (.aload_n 0, 1) := by decide +kernel
theorem dX3_setDelay_42 : decode cX3_setDelay 42 = .ok (.getfield 25, 3) := by decide +kernel
theorem dX3_setDelay_45 : decode cX3_setDelay 45 = .ok (.iload_n 1, 1) := by decide +kernel
theorem dX3_setDelay_46 : decode cX3_setDelay 46 = .ok (.iaload, 1) := by decide +kernel
theorem dX3_setDelay_47 : decode cX3_setDelay 47 = .ok (.istore_n 3, 1) := by decide +kernel
theorem dX3_setDelay_48 : decode cX3_setDelay 48 = .ok (.aload_n 0, 1) := by decide +kernel
theorem dX3_setDelay_49 : decode cX3_setDelay 49 = .ok (.getfield 25, 3) := by decide +kernel
theorem dX3_setDelay_52 : decode cX3_setDelay 52 = .ok (.iload_n 1, 1) := by decide +kernel
theorem dX3_setDelay_53 : decode cX3_setDelay 53 = .ok (.iload_n 2, 1) := by decide +kernel
theorem dX3_setDelay_54 : decode cX3_setDelay 54 = .ok (.iastore, 1) := by decide +kernel
theorem dX3_setDelay_55 : decode cX3_setDelay 55 = .ok (.aload_n 0, 1) := by decide +kernel
theorem dX3_setDelay_56 : decode cX3_setDelay 56 = .ok (.iconst 0, 1) := by decide +kernel
theorem dX3_setDelay_57 : decode cX3_setDelay 57 = .ok (.putfield 59, 3) := by decide +kernel
theorem dX3_setDelay_60 : decode cX3_setDelay 60 = .ok (.iload_n 3, 1) := by decide +kernel
theorem dX3_setDelay_61 : decode cX3_setDelay 61 = .ok (.ireturn, 1) := by decide +kernel
theorem dX3_operationCount_0 : decode cX3_operationCount 0 = .ok (.aload_n 0, 1) := by decide +kernel
theorem dX3_operationCount_1 : decode cX3_operationCount 1 = .ok (.iconst 0, 1) := by decide +kernel
theorem dX3_operationCount_2 : decode cX3_operationCount 2 = .ok (.putfield 44, 3) := by decide +kernel
theorem dX3_operationCount_5 : decode cX3_operationCount 5 = .ok (.aload_n 0, 1) := by decide +kernel
theorem dX3_operationCount_6 : decode cX3_operationCount 6 = .ok (.getfield 48, 3) := by decide +kernel
theorem dX3_operationCount_9 : decode cX3_operationCount 9 = .ok (.ireturn, 1) := by decide +kernel
theorem dX3_dependenceCount_0 : decode cX3_dependenceCount 0 = .ok (.aload_n 0, 1) := by decide +kernel
theorem dX3_dependenceCount_1 : decode cX3_dependenceCount 1 = .ok (.iconst 0, 1) := by decide +kernel
theorem dX3_dependenceCount_2 : decode cX3_dependenceCount 2 = .ok (.putfield 44, 3) := by decide +kernel
theorem dX3_dependenceCount_5 : decode cX3_dependenceCount 5 = .ok (.aload_n 0, 1) := by decide +kernel
theorem dX3_dependenceCount_6 : decode cX3_dependenceCount 6 = .ok (.getfield 66, 3) := by decide +kernel
theorem dX3_dependenceCount_9 : decode cX3_dependenceCount 9 = .ok (.ireturn, 1) := by decide +kernel
theorem dX3_byResources_0 : decode cX3_byResources 0 = .ok (.iconst 1, 1) := by decide +kernel
theorem dX3_byResources_1 : decode cX3_byResources 1 = .ok (.istore_n 1, 1) := by decide +kernel
theorem dX3_byResources_2 : decode cX3_byResources 2 = .ok (.iconst 0, 1) := by decide +kernel
theorem dX3_byResources_3 : decode cX3_byResources 3 = .ok (.istore_n 2, 1) := by decide +kernel
theorem dX3_byResources_4 : decode cX3_byResources 4 = .ok (.iload_n 2, 1) := by decide +kernel
theorem dX3_byResources_5 : decode cX3_byResources 5 = .ok (.iconst 3, 1) := by decide +kernel
theorem dX3_byResources_6 : decode cX3_byResources 6 = .ok (.if_icmp .ge 72, 3) := by decide +kernel
theorem dX3_byResources_9 : decode cX3_byResources 9 = .ok (.iconst 0, 1) := by decide +kernel
theorem dX3_byResources_10 : decode cX3_byResources 10 = .ok (.istore_n 3, 1) := by decide +kernel
theorem dX3_byResources_11 : decode cX3_byResources 11 = .ok (.iconst 0, 1) := by decide +kernel
theorem dX3_byResources_12 : decode cX3_byResources 12 = .ok (.istore 4, 2) := by decide +kernel
theorem dX3_byResources_14 : decode cX3_byResources 14 = .ok (.iload 4, 2) := by decide +kernel
theorem dX3_byResources_16 : decode cX3_byResources 16 = .ok (.aload_n 0, 1) := by decide +kernel
theorem dX3_byResources_17 : decode cX3_byResources 17 = .ok (.getfield 48, 3) := by decide +kernel
theorem dX3_byResources_20 : decode cX3_byResources 20 = .ok (.if_icmp .ge 34, 3) := by decide +kernel
theorem dX3_byResources_23 : decode cX3_byResources 23 = .ok (.iload_n 3, 1) := by decide +kernel
theorem dX3_byResources_24 : decode cX3_byResources 24 = .ok (.aload_n 0, 1) := by decide +kernel
theorem dX3_byResources_25 : decode cX3_byResources 25 = .ok (.getfield 13, 3) := by decide +kernel
theorem dX3_byResources_28 : decode cX3_byResources 28 = .ok (.iload 4, 2) := by decide +kernel
theorem dX3_byResources_30 : decode cX3_byResources 30 = .ok (.iaload, 1) := by decide +kernel
theorem dX3_byResources_31 : decode cX3_byResources 31 = .ok (.iload_n 2, 1) := by decide +kernel
theorem dX3_byResources_32 : decode cX3_byResources 32 = .ok (.if_icmp .ne 13, 3) := by decide +kernel
theorem dX3_byResources_35 : decode cX3_byResources 35 = .ok (.aload_n 0, 1) := by decide +kernel
theorem dX3_byResources_36 : decode cX3_byResources 36 = .ok (.getfield 16, 3) := by decide +kernel
theorem dX3_byResources_39 : decode cX3_byResources 39 = .ok (.iload 4, 2) := by decide +kernel
theorem dX3_byResources_41 : decode cX3_byResources 41 = .ok (.iaload, 1) := by decide +kernel
theorem dX3_byResources_42 : decode cX3_byResources 42 = .ok (.goto 4, 3) := by decide +kernel
theorem dX3_byResources_45 : decode cX3_byResources 45 = .ok (.iconst 0, 1) := by decide +kernel
theorem dX3_byResources_46 : decode cX3_byResources 46 = .ok (.iadd, 1) := by decide +kernel
theorem dX3_byResources_47 : decode cX3_byResources 47 = .ok (.istore_n 3, 1) := by decide +kernel
theorem dX3_byResources_48 : decode cX3_byResources 48 = .ok (.iinc 4 1, 3) := by decide +kernel
theorem dX3_byResources_51 : decode cX3_byResources 51 = .ok (.goto (-37), 3) := by decide +kernel
theorem dX3_byResources_54 : decode cX3_byResources 54 = .ok (.iload_n 1, 1) := by decide +kernel
theorem dX3_byResources_55 : decode cX3_byResources 55 = .ok (.aload_n 0, 1) := by decide +kernel
theorem dX3_byResources_56 : decode cX3_byResources 56 = .ok (.getfield 7, 3) := by decide +kernel
theorem dX3_byResources_59 : decode cX3_byResources 59 = .ok (.iload_n 2, 1) := by decide +kernel
theorem dX3_byResources_60 : decode cX3_byResources 60 = .ok (.iaload, 1) := by decide +kernel
theorem dX3_byResources_61 : decode cX3_byResources 61 = .ok (.imul, 1) := by decide +kernel
theorem dX3_byResources_62 : decode cX3_byResources 62 = .ok (.iload_n 3, 1) := by decide +kernel
theorem dX3_byResources_63 : decode cX3_byResources 63 = .ok (.if_icmp .ge 9, 3) := by decide +kernel
theorem dX3_byResources_66 : decode cX3_byResources 66 = .ok (.iinc 1 1, 3) := by decide +kernel
theorem dX3_byResources_69 : decode cX3_byResources 69 = .ok (.goto (-15), 3) := by decide +kernel
theorem dX3_byResources_72 : decode cX3_byResources 72 = .ok (.iinc 2 1, 3) := by decide +kernel
theorem dX3_byResources_75 : decode cX3_byResources 75 = .ok (.goto (-71), 3) := by decide +kernel
theorem dX3_byResources_78 : decode cX3_byResources 78 = .ok (.iload_n 1, 1) := by decide +kernel
theorem dX3_byResources_79 : decode cX3_byResources 79 = .ok (.ireturn, 1) := by decide +kernel
set_option maxRecDepth 20000 in
theorem ggX3_resourceBound_X3_byResources : GoodIn wsX3_resourceBound wsX3_byResources := goodIn_r _ [6, 7, 8, 9, 10, 11, 12, 13, 14, 15, 16, 17, 18, 19, 20, 21, 22, 23, 24, 25, 26] (by decide +kernel) (by decide +kernel)
set_option maxRecDepth 20000 in
theorem gX3_resourceBound_X3_byResources : GoodIn wsX3_resourceBound (wsV RX3 69 RX3 yX3_byResources wsX3_byResources) := goodIn_app (goodIn_of _ (by decide +kernel)) ggX3_resourceBound_X3_byResources
theorem dX3_resourceBound_0 : decode cX3_resourceBound 0 = .ok (.aload_n 0, 1) := by decide +kernel
theorem dX3_resourceBound_1 : decode cX3_resourceBound 1 = .ok (.iconst 0, 1) := by decide +kernel
theorem dX3_resourceBound_2 : decode cX3_resourceBound 2 = .ok (.putfield 44, 3) := by decide +kernel
theorem dX3_resourceBound_5 : decode cX3_resourceBound 5 = .ok (.aload_n 0, 1) := by decide +kernel
theorem dX3_resourceBound_6 : decode cX3_resourceBound 6 = .ok (.invokevirtual 69, 3) := by decide +kernel
theorem dX3_resourceBound_9 : decode cX3_resourceBound 9 = .ok (.ireturn, 1) := by decide +kernel
theorem dX3_lengthOf_0 : decode cX3_lengthOf 0 = .ok (.aload_n 0, 1) := by decide +kernel
theorem dX3_lengthOf_1 : decode cX3_lengthOf 1 = .ok (.getfield 25, 3) := by decide +kernel
theorem dX3_lengthOf_4 : decode cX3_lengthOf 4 = .ok (.iload_n 1, 1) := by decide +kernel
theorem dX3_lengthOf_5 : decode cX3_lengthOf 5 = .ok (.iaload, 1) := by decide +kernel
theorem dX3_lengthOf_6 : decode cX3_lengthOf 6 = .ok (.iload_n 2, 1) := by decide +kernel
theorem dX3_lengthOf_7 : decode cX3_lengthOf 7 = .ok (.aload_n 0, 1) := by decide +kernel
theorem dX3_lengthOf_8 : decode cX3_lengthOf 8 = .ok (.getfield 28, 3) := by decide +kernel
theorem dX3_lengthOf_11 : decode cX3_lengthOf 11 = .ok (.iload_n 1, 1) := by decide +kernel
theorem dX3_lengthOf_12 : decode cX3_lengthOf 12 = .ok (.iaload, 1) := by decide +kernel
theorem dX3_lengthOf_13 : decode cX3_lengthOf 13 = .ok (.imul, 1) := by decide +kernel
theorem dX3_lengthOf_14 : decode cX3_lengthOf 14 = .ok (.isub, 1) := by decide +kernel
theorem dX3_lengthOf_15 : decode cX3_lengthOf 15 = .ok (.ireturn, 1) := by decide +kernel
set_option maxRecDepth 20000 in
theorem ggX3_findHeights_X3_grow : GoodIn wsX3_findHeights wsX3_grow := goodIn_r _ [7, 8, 2, 9, 10, 11, 12, 13, 6, 14, 15, 16, 17, 18, 19, 20, 21, 22, 23, 24, 25, 26, 27, 28, 29, 30, 31, 32] (by decide +kernel) (by decide +kernel)
set_option maxRecDepth 20000 in
theorem gX3_findHeights_X3_grow : GoodIn wsX3_findHeights (wsV RX3 73 RX3 yX3_grow wsX3_grow) := goodIn_app (goodIn_of _ (by decide +kernel)) ggX3_findHeights_X3_grow
theorem dX3_findHeights_0 : decode cX3_findHeights 0 = .ok (.iconst 0, 1) := by decide +kernel
theorem dX3_findHeights_1 : decode cX3_findHeights 1 = .ok (.istore_n 2, 1) := by decide +kernel
theorem dX3_findHeights_2 : decode cX3_findHeights 2 = .ok (.iload_n 2, 1) := by decide +kernel
theorem dX3_findHeights_3 : decode cX3_findHeights 3 = .ok (.aload_n 0, 1) := by decide +kernel
theorem dX3_findHeights_4 : decode cX3_findHeights 4 = .ok (.getfield 48, 3) := by decide +kernel
theorem dX3_findHeights_7 : decode cX3_findHeights 7 = .ok (.if_icmp .ge 16, 3) := by decide +kernel
theorem dX3_findHeights_10 : decode cX3_findHeights 10 = .ok (.aload_n 0, 1) := by decide +kernel
theorem dX3_findHeights_11 : decode cX3_findHeights 11 = .ok (.getfield 34, 3) := by decide +kernel
theorem dX3_findHeights_14 : decode cX3_findHeights 14 = .ok (.iload_n 2, 1) := by decide +kernel
theorem dX3_findHeights_15 : decode cX3_findHeights 15 = .ok (.iconst 0, 1) := by decide +kernel
theorem dX3_findHeights_16 : decode cX3_findHeights 16 = .ok (.iastore, 1) := by decide +kernel
theorem dX3_findHeights_17 : decode cX3_findHeights 17 = .ok (.iinc 2 1, 3) := by decide +kernel
theorem dX3_findHeights_20 : decode cX3_findHeights 20 = .ok (.goto (-18), 3) := by decide +kernel
theorem dX3_findHeights_23 : decode cX3_findHeights 23 = .ok (.iconst 0, 1) := by decide +kernel
theorem dX3_findHeights_24 : decode cX3_findHeights 24 = .ok (.istore_n 2, 1) := by decide +kernel
theorem dX3_findHeights_25 : decode cX3_findHeights 25 = .ok (.iload_n 2, 1) := by decide +kernel
theorem dX3_findHeights_26 : decode cX3_findHeights 26 = .ok (.aload_n 0, 1) := by decide +kernel
theorem dX3_findHeights_27 : decode cX3_findHeights 27 = .ok (.getfield 48, 3) := by decide +kernel
theorem dX3_findHeights_30 : decode cX3_findHeights 30 = .ok (.if_icmp .ge 15, 3) := by decide +kernel
theorem dX3_findHeights_33 : decode cX3_findHeights 33 = .ok (.aload_n 0, 1) := by decide +kernel
theorem dX3_findHeights_34 : decode cX3_findHeights 34 = .ok (.iload_n 1, 1) := by decide +kernel
theorem dX3_findHeights_35 : decode cX3_findHeights 35 = .ok (.invokevirtual 73, 3) := by decide +kernel
theorem dX3_findHeights_38 : decode cX3_findHeights 38 = .ok (.pop, 1) := by decide +kernel
theorem dX3_findHeights_39 : decode cX3_findHeights 39 = .ok (.iinc 2 1, 3) := by decide +kernel
theorem dX3_findHeights_42 : decode cX3_findHeights 42 = .ok (.goto (-17), 3) := by decide +kernel
theorem dX3_findHeights_45 : decode cX3_findHeights 45 = .ok (.aload_n 0, 1) := by decide +kernel
theorem dX3_findHeights_46 : decode cX3_findHeights 46 = .ok (.iload_n 1, 1) := by decide +kernel
theorem dX3_findHeights_47 : decode cX3_findHeights 47 = .ok (.invokevirtual 73, 3) := by decide +kernel
theorem dX3_findHeights_50 : decode cX3_findHeights 50 = .ok (.ifCond .ne 7, 3) := by decide +kernel
theorem dX3_findHeights_53 : decode cX3_findHeights 53 = .ok (.iconst 1, 1) := by decide +kernel
theorem dX3_findHeights_54 : decode cX3_findHeights 54 = .ok (.goto 4, 3) := by decide +kernel
theorem dX3_findHeights_57 : decode cX3_findHeights 57 = .ok (.iconst 0, 1) := by decide +kernel
theorem dX3_findHeights_58 : decode cX3_findHeights 58 = .ok (.ireturn, 1) := by decide +kernel
set_option maxRecDepth 20000 in
theorem ggX3_grow_X3_lengthOf : GoodIn wsX3_grow wsX3_lengthOf := goodIn_r _ [9, 10, 11, 12, 13, 14, 15, 16, 17, 18, 19, 20, 21, 22, 23, 24, 25, 26, 27] (by decide +kernel) (by decide +kernel)
set_option maxRecDepth 20000 in
theorem gX3_grow_X3_lengthOf : GoodIn wsX3_grow (wsV RX3 76 RX3 yX3_lengthOf wsX3_lengthOf) := goodIn_app (goodIn_of _ (by decide +kernel)) ggX3_grow_X3_lengthOf
theorem dX3_grow_0 : decode cX3_grow 0 = .ok (.iconst 0, 1) := by decide +kernel
theorem dX3_grow_1 : decode cX3_grow 1 = .ok (.istore_n 2, 1) := by decide +kernel
theorem dX3_grow_2 : decode cX3_grow 2 = .ok (.iconst 0, 1) := by decide +kernel
theorem dX3_grow_3 : decode cX3_grow 3 = .ok (.istore_n 3, 1) := by decide +kernel
theorem dX3_grow_4 : decode cX3_grow 4 = .ok (.iload_n 3, 1) := by decide +kernel
theorem dX3_grow_5 : decode cX3_grow 5 = .ok (.aload_n 0, 1) := by decide +kernel
theorem dX3_grow_6 : decode cX3_grow 6 = .ok (.getfield 66, 3) := by decide +kernel
theorem dX3_grow_9 : decode cX3_grow 9 = .ok (.if_icmp .ge 63, 3) := by decide +kernel
theorem dX3_grow_12 : decode cX3_grow 12 = .ok (.aload_n 0, 1) := by decide +kernel
theorem dX3_grow_13 : decode cX3_grow 13 = .ok (.iload_n 3, 1) := by decide +kernel
theorem dX3_grow_14 : decode cX3_grow 14 = .ok (.iload_n 1, 1) := by decide +kernel
theorem dX3_grow_15 : decode cX3_grow 15 = .ok (.invokevirtual 76, 3) := by decide +kernel
theorem dX3_grow_18 : decode cX3_grow 18 = .ok (.aload_n 0, 1) := by decide +kernel
theorem dX3_grow_19 : decode cX3_grow 19 = .ok (.getfield 34, 3) := by decide +kernel
theorem dX3_grow_22 : decode cX3_grow 22 = .ok (.aload_n 0, 1) := by decide +kernel
theorem dX3_grow_23 : decode cX3_grow 23 = .ok (.getfield 22, 3) := by decide +kernel
theorem dX3_grow_26 : decode cX3_grow 26 = .ok (.iload_n 3, 1) := by decide +kernel
theorem dX3_grow_27 : decode cX3_grow 27 = .ok (.iaload, 1) := by decide +kernel
theorem dX3_grow_28 : decode cX3_grow 28 = .ok (.iaload, 1) := by decide +kernel
theorem dX3_grow_29 : decode cX3_grow 29 = .ok (.iadd, 1) := by decide +kernel
theorem dX3_grow_30 : decode cX3_grow 30 = .ok (.istore 4, 2) := by decide +kernel
theorem dX3_grow_32 : decode cX3_grow 32 = .ok (.iload 4, 2) := by decide +kernel
theorem dX3_grow_34 : decode cX3_grow 34 = .ok (.aload_n 0, 1) := by decide +kernel
theorem dX3_grow_35 : decode cX3_grow 35 = .ok (.getfield 34, 3) := by decide +kernel
theorem dX3_grow_38 : decode cX3_grow 38 = .ok (.aload_n 0, 1) := by decide +kernel
theorem dX3_grow_39 : decode cX3_grow 39 = .ok (.getfield 19, 3) := by decide +kernel
theorem dX3_grow_42 : decode cX3_grow 42 = .ok (.iload_n 3, 1) := by decide +kernel
theorem dX3_grow_43 : decode cX3_grow 43 = .ok (.iaload, 1) := by decide +kernel
theorem dX3_grow_44 : decode cX3_grow 44 = .ok (.iaload, 1) := by decide +kernel
theorem dX3_grow_45 : decode cX3_grow 45 = .ok (.if_icmp .gt 6, 3) := by decide +kernel
theorem dX3_grow_48 : decode cX3_grow 48 = .ok (.goto 18, 3) := by decide +kernel
theorem dX3_grow_51 : decode cX3_grow 51 = .ok (.aload_n 0, 1) := by decide +kernel
theorem dX3_grow_52 : decode cX3_grow 52 = .ok (.getfield 34, 3) := by decide +kernel
theorem dX3_grow_55 : decode cX3_grow 55 = .ok (.aload_n 0, 1) := by decide +kernel
theorem dX3_grow_56 : decode cX3_grow 56 = .ok (.getfield 19, 3) := by decide +kernel
theorem dX3_grow_59 : decode cX3_grow 59 = .ok (.iload_n 3, 1) := by decide +kernel
theorem dX3_grow_60 : decode cX3_grow 60 = .ok (.iaload, 1) := by decide +kernel
theorem dX3_grow_61 : decode cX3_grow 61 = .ok (.iload 4, 2) := by decide +kernel
theorem dX3_grow_63 : decode cX3_grow 63 = .ok (.iastore, 1) := by decide +kernel
theorem dX3_grow_64 : decode cX3_grow 64 = .ok (.iconst 1, 1) := by decide +kernel
theorem dX3_grow_65 : decode cX3_grow 65 = .ok (.istore_n 2, 1) := by decide +kernel
theorem dX3_grow_66 : decode cX3_grow 66 = .ok (.iinc 3 1, 3) := by decide +kernel
theorem dX3_grow_69 : decode cX3_grow 69 = .ok (.goto (-65), 3) := by decide +kernel
theorem dX3_grow_72 : decode cX3_grow 72 = .ok (.iload_n 2, 1) := by decide +kernel
theorem dX3_grow_73 : decode cX3_grow 73 = .ok (.ireturn, 1) := by decide +kernel
set_option maxRecDepth 20000 in
theorem ggX3_byRecurrences_X3_findHeights : GoodIn wsX3_byRecurrences wsX3_findHeights := goodIn_r _ [5, 6, 7, 8, 9, 10, 4, 11, 12, 13, 14, 15, 16, 17, 18, 19, 20, 21, 22, 23, 24, 25, 26, 27, 28, 29, 30, 31, 32, 33, 34, 35, 36] (by decide +kernel) (by decide +kernel)
set_option maxRecDepth 20000 in
theorem gX3_byRecurrences_X3_findHeights : GoodIn wsX3_byRecurrences (wsV RX3 80 RX3 yX3_findHeights wsX3_findHeights) := goodIn_app (goodIn_of _ (by decide +kernel)) ggX3_byRecurrences_X3_findHeights
theorem dX3_byRecurrences_0 : decode cX3_byRecurrences 0 = .ok (.iconst 1, 1) := by decide +kernel
theorem dX3_byRecurrences_1 : decode cX3_byRecurrences 1 = .ok (.istore_n 1, 1) := by decide +kernel
theorem dX3_byRecurrences_2 : decode cX3_byRecurrences 2 = .ok (.iload_n 1, 1) := by decide +kernel
theorem dX3_byRecurrences_3 : decode cX3_byRecurrences 3 = .ok (.sipush 200, 3) := by decide +kernel
theorem dX3_byRecurrences_6 : decode cX3_byRecurrences 6 = .ok (.if_icmp .gt 19, 3) := by decide +kernel
theorem dX3_byRecurrences_9 : decode cX3_byRecurrences 9 = .ok (.aload_n 0, 1) := by decide +kernel
theorem dX3_byRecurrences_10 : decode cX3_byRecurrences 10 = .ok (.iload_n 1, 1) := by decide +kernel
theorem dX3_byRecurrences_11 : decode cX3_byRecurrences 11 = .ok (.invokevirtual 80, 3) := by decide +kernel
theorem dX3_byRecurrences_14 : decode cX3_byRecurrences 14 = .ok (.ifCond .eq 5, 3) := by decide +kernel
theorem dX3_byRecurrences_17 : decode cX3_byRecurrences 17 = .ok (.iload_n 1, 1) := by decide +kernel
theorem dX3_byRecurrences_18 : decode cX3_byRecurrences 18 = .ok (.ireturn, 1) := by decide +kernel
theorem dX3_byRecurrences_19 : decode cX3_byRecurrences 19 = .ok (.iinc 1 1, 3) := by decide +kernel
theorem dX3_byRecurrences_22 : decode cX3_byRecurrences 22 = .ok (.goto (-20), 3) := by decide +kernel
theorem dX3_byRecurrences_25 : decode cX3_byRecurrences 25 = .ok (.iconst (-1), 1) := by decide +kernel
theorem dX3_byRecurrences_26 : decode cX3_byRecurrences 26 = .ok (.ireturn, 1) := by decide +kernel
set_option maxRecDepth 20000 in
theorem ggX3_recurrenceBound_X3_byRecurrences : GoodIn wsX3_recurrenceBound wsX3_byRecurrences := goodIn_r _ [6, 7, 8, 9, 5, 10, 11, 12, 13, 14, 15, 16, 17, 18, 19, 20, 21, 22, 23, 24, 25, 26, 27, 28, 29, 30, 31, 32, 33, 34, 35, 36, 37, 38, 39, 40, 41] (by decide +kernel) (by decide +kernel)
set_option maxRecDepth 20000 in
theorem gX3_recurrenceBound_X3_byRecurrences : GoodIn wsX3_recurrenceBound (wsV RX3 83 RX3 yX3_byRecurrences wsX3_byRecurrences) := goodIn_app (goodIn_of _ (by decide +kernel)) ggX3_recurrenceBound_X3_byRecurrences
theorem dX3_recurrenceBound_0 : decode cX3_recurrenceBound 0 = .ok (.aload_n 0, 1) := by decide +kernel
theorem dX3_recurrenceBound_1 : decode cX3_recurrenceBound 1 = .ok (.iconst 0, 1) := by decide +kernel
theorem dX3_recurrenceBound_2 : decode cX3_recurrenceBound 2 = .ok (.putfield 44, 3) := by decide +kernel
theorem dX3_recurrenceBound_5 : decode cX3_recurrenceBound 5 = .ok (.aload_n 0, 1) := by decide +kernel
theorem dX3_recurrenceBound_6 : decode cX3_recurrenceBound 6 = .ok (.invokevirtual 83, 3) := by decide +kernel
theorem dX3_recurrenceBound_9 : decode cX3_recurrenceBound 9 = .ok (.ireturn, 1) := by decide +kernel
set_option maxRecDepth 20000 in
theorem ggX3_height_X3_isOperation : GoodIn wsX3_height wsX3_isOperation := goodIn_r _ [7, 8, 9, 10, 6, 11, 37, 38, 39, 40, 41, 42, 43, 44, 45, 46, 47, 48, 49, 50, 51, 52] (by decide +kernel) (by decide +kernel)
set_option maxRecDepth 20000 in
theorem gX3_height_X3_isOperation : GoodIn wsX3_height (wsV RX3 62 RX3 yX3_isOperation wsX3_isOperation) := goodIn_app (goodIn_of _ (by decide +kernel)) ggX3_height_X3_isOperation
set_option maxRecDepth 20000 in
theorem ggX3_height_X3_no : GoodIn wsX3_height wsX3_no := goodIn_r _ [15, 1, 37, 38, 39, 40, 41, 42, 43, 44, 45, 46, 47, 48, 49, 50, 51, 52] (by decide +kernel) (by decide +kernel)
set_option maxRecDepth 20000 in
theorem gX3_height_X3_no : GoodIn wsX3_height (wsV RX3 55 RX3 yX3_no wsX3_no) := goodIn_app (goodIn_of _ (by decide +kernel)) ggX3_height_X3_no
set_option maxRecDepth 20000 in
theorem ggX3_height_X3_byRecurrences : GoodIn wsX3_height wsX3_byRecurrences := goodIn_r _ [19, 20, 21, 22, 6, 23, 8, 2, 24, 25, 26, 27, 28, 29, 30, 31, 32, 33, 34, 35, 36, 37, 38, 39, 40, 41, 42, 43, 44, 45, 46, 47, 48, 49, 50, 51, 52] (by decide +kernel) (by decide +kernel)
set_option maxRecDepth 20000 in
theorem gX3_height_X3_byRecurrences : GoodIn wsX3_height (wsV RX3 83 RX3 yX3_byRecurrences wsX3_byRecurrences) := goodIn_app (goodIn_of _ (by decide +kernel)) ggX3_height_X3_byRecurrences
set_option maxRecDepth 20000 in
theorem ggX3_height_X3_isIn : GoodIn wsX3_height wsX3_isIn := goodIn_r _ [11] (by decide +kernel) (by decide +kernel)
set_option maxRecDepth 20000 in
theorem gX3_height_X3_isIn : GoodIn wsX3_height (va_wsS RX3 51 yX3_isIn wsX3_isIn) := goodIn_app (goodIn_of _ (by decide +kernel)) ggX3_height_X3_isIn
set_option maxRecDepth 20000 in
theorem ggX3_height_X3_findHeights : GoodIn wsX3_height wsX3_findHeights := goodIn_r _ [23, 8, 2, 24, 25, 26, 6, 27, 28, 29, 30, 31, 32, 33, 34, 35, 36, 37, 38, 39, 40, 41, 42, 43, 44, 45, 46, 47, 48, 49, 50, 51, 52] (by decide +kernel) (by decide +kernel)
set_option maxRecDepth 20000 in
theorem gX3_height_X3_findHeights : GoodIn wsX3_height (wsV RX3 80 RX3 yX3_findHeights wsX3_findHeights) := goodIn_app (goodIn_of _ (by decide +kernel)) ggX3_height_X3_findHeights
theorem dX3_height_0 : decode cX3_height 0 = .ok (.aload_n 0, 1) := by decide +kernel
theorem dX3_height_1 : decode cX3_height 1 = .ok (.iconst 0, 1) := by decide +kernel
theorem dX3_height_2 : decode cX3_height 2 = .ok (.putfield 44, 3) := by decide +kernel
theorem dX3_height_5 : decode cX3_height 5 = .ok (.aload_n 0, 1) := by decide +kernel
theorem dX3_height_6 : decode cX3_height 6 = .ok (.iload_n 1, 1) := by decide +kernel
theorem dX3_height_7 : decode cX3_height 7 = .ok (.invokevirtual 62, 3) := by decide +kernel
theorem dX3_height_10 : decode cX3_height 10 = .ok (.ifCond .ne 9, 3) := by decide +kernel
theorem dX3_height_13 : decode cX3_height 13 = .ok (.aload_n 0, 1) := by decide +kernel
theorem dX3_height_14 : decode cX3_height 14 = .ok (.iconst 1, 1) := by decide +kernel
theorem dX3_height_15 : decode cX3_height 15 = .ok (.invokevirtual 55, 3) := by decide +kernel
theorem dX3_height_18 : decode cX3_height 18 = .ok (.ireturn, 1) := by decide +kernel
theorem dX3_height_19 : decode cX3_height 19 = .ok (.aload_n 0, 1) := by decide +kernel
theorem dX3_height_20 : decode cX3_height 20 = .ok (.invokevirtual 83, 3) := by decide +kernel
theorem dX3_height_23 : decode cX3_height 23 = .ok (.istore_n 3, 1) := by decide +kernel
theorem dX3_height_24 : decode cX3_height 24 = .ok (.iload_n 3, 1) := by decide +kernel
theorem dX3_height_25 : decode cX3_height 25 = .ok (.iconst (-1), 1) := by decide +kernel
theorem dX3_height_26 : decode cX3_height 26 = .ok (.if_icmp .eq 14, 3) := by decide +kernel
theorem dX3_height_29 : decode cX3_height 29 = .ok (.iload_n 2, 1) := by decide +kernel
theorem dX3_height_30 : decode cX3_height 30 = .ok (.iload_n 3, 1) := by decide +kernel
theorem dX3_height_31 : decode cX3_height 31 = .ok (.sipush 200, 3) := by decide +kernel
theorem dX3_height_34 : decode cX3_height 34 = .ok (.invokestatic 51, 3) := by decide +kernel
theorem dX3_height_37 : decode cX3_height 37 = .ok (.ifCond .ne 9, 3) := by decide +kernel
theorem dX3_height_40 : decode cX3_height 40 = .ok (.aload_n 0, 1) := by decide +kernel
theorem dX3_height_41 : decode cX3_height 41 = .ok (.iconst 2, 1) := by decide +kernel
theorem dX3_height_42 : decode cX3_height 42 = .ok (.invokevirtual 55, 3) := by decide +kernel
theorem dX3_height_45 : decode cX3_height 45 = .ok (.ireturn, 1) := by decide +kernel
theorem dX3_height_46 : decode cX3_height 46 = .ok (.aload_n 0, 1) := by decide +kernel
theorem dX3_height_47 : decode cX3_height 47 = .ok (.iload_n 2, 1) := by decide +kernel
theorem dX3_height_48 : decode cX3_height 48 = .ok (.invokevirtual 80, 3) := by decide +kernel
theorem dX3_height_51 : decode cX3_height 51 = .ok (.pop, 1) := by decide +kernel
theorem dX3_height_52 : decode cX3_height 52 = .ok (.aload_n 0, 1) := by decide +kernel
theorem dX3_height_53 : decode cX3_height 53 = .ok (.getfield 34, 3) := by decide +kernel
theorem dX3_height_56 : decode cX3_height 56 = .ok (.iload_n 1, 1) := by decide +kernel
theorem dX3_height_57 : decode cX3_height 57 = .ok (.iaload, 1) := by decide +kernel
theorem dX3_height_58 : decode cX3_height 58 = .ok (.ireturn, 1) := by decide +kernel
theorem dX3_takenIn_0 : decode cX3_takenIn 0 = .ok (.iconst 0, 1) := by decide +kernel
theorem dX3_takenIn_1 : decode cX3_takenIn 1 = .ok (.istore 4, 2) := by decide +kernel
theorem dX3_takenIn_3 : decode cX3_takenIn 3 = .ok (.iconst 0, 1) := by decide +kernel
theorem dX3_takenIn_4 : decode cX3_takenIn 4 = .ok (.istore 5, 2) := by decide +kernel
theorem dX3_takenIn_6 : decode cX3_takenIn 6 = .ok (.iload 5, 2) := by decide +kernel
theorem dX3_takenIn_8 : decode cX3_takenIn 8 = .ok (.aload_n 0, 1) := by decide +kernel
theorem dX3_takenIn_9 : decode cX3_takenIn 9 = .ok (.getfield 48, 3) := by decide +kernel
theorem dX3_takenIn_12 : decode cX3_takenIn 12 = .ok (.if_icmp .ge 77, 3) := by decide +kernel
theorem dX3_takenIn_15 : decode cX3_takenIn 15 = .ok (.iconst 0, 1) := by decide +kernel
theorem dX3_takenIn_16 : decode cX3_takenIn 16 = .ok (.istore 6, 2) := by decide +kernel
theorem dX3_takenIn_18 : decode cX3_takenIn 18 = .ok (.iload 6, 2) := by decide +kernel
theorem dX3_takenIn_20 : decode cX3_takenIn 20 = .ok (.aload_n 0, 1) := by decide +kernel
theorem dX3_takenIn_21 : decode cX3_takenIn 21 = .ok (.getfield 16, 3) := by decide +kernel
theorem dX3_takenIn_24 : decode cX3_takenIn 24 = .ok (.iload 5, 2) := by decide +kernel
theorem dX3_takenIn_26 : decode cX3_takenIn 26 = .ok (.iaload, 1) := by decide +kernel
theorem dX3_takenIn_27 : decode cX3_takenIn 27 = .ok (.if_icmp .ge 56, 3) := by decide +kernel
theorem dX3_takenIn_30 : decode cX3_takenIn 30 = .ok (.aload_n 0, 1) := by decide +kernel
theorem dX3_takenIn_31 : decode cX3_takenIn 31 = .ok (.getfield 37, 3) := by decide +kernel
theorem dX3_takenIn_34 : decode cX3_takenIn 34 = .ok (.iload 5, 2) := by decide +kernel
theorem dX3_takenIn_36 : decode cX3_takenIn 36 = .ok (.baload, 1) := by decide +kernel
theorem dX3_takenIn_37 : decode cX3_takenIn 37 = .ok (.ifCond .eq 46, 3) := by decide +kernel
theorem dX3_takenIn_40 : decode cX3_takenIn 40 = .ok (.aload_n 0, 1) := by decide +kernel
theorem dX3_takenIn_41 : decode cX3_takenIn 41 = .ok (.getfield 13, 3) := by decide +kernel
theorem dX3_takenIn_44 : decode cX3_takenIn 44 = .ok (.iload 5, 2) := by decide +kernel
theorem dX3_takenIn_46 : decode cX3_takenIn 46 = .ok (.iaload, 1) := by decide +kernel
theorem dX3_takenIn_47 : decode cX3_takenIn 47 = .ok (.iload_n 2, 1) := by decide +kernel
theorem dX3_takenIn_48 : decode cX3_takenIn 48 = .ok (.if_icmp .ne 35, 3) := by decide +kernel
theorem dX3_takenIn_51 : decode cX3_takenIn 51 = .ok (.iload 4, 2) := by decide +kernel
theorem dX3_takenIn_53 : decode cX3_takenIn 53 = .ok (.aload_n 0, 1) := by decide +kernel
theorem dX3_takenIn_54 : decode cX3_takenIn 54 = .ok (.getfield 31, 3) := by decide +kernel
theorem dX3_takenIn_57 : decode cX3_takenIn 57 = .ok (.iload 5, 2) := by decide +kernel
theorem dX3_takenIn_59 : decode cX3_takenIn 59 = .ok (.iaload, 1) := by decide +kernel
theorem dX3_takenIn_60 : decode cX3_takenIn 60 = .ok (.iload 6, 2) := by decide +kernel
theorem dX3_takenIn_62 : decode cX3_takenIn 62 = .ok (.iadd, 1) := by decide +kernel
theorem dX3_takenIn_63 : decode cX3_takenIn 63 = .ok (.iload_n 3, 1) := by decide +kernel
theorem dX3_takenIn_64 : decode cX3_takenIn 64 = .ok (.irem, 1) := by decide +kernel
theorem dX3_takenIn_65 : decode cX3_takenIn 65 = .ok (.iload_n 1, 1) := by decide +kernel
theorem dX3_takenIn_66 : decode cX3_takenIn 66 = .ok (.if_icmp .ne 7, 3) := by decide +kernel
theorem dX3_takenIn_69 : decode cX3_takenIn 69 = .ok (.iconst 1, 1) := by decide +kernel
theorem dX3_takenIn_70 : decode cX3_takenIn 70 = .ok (.goto 4, 3) := by decide +kernel
theorem dX3_takenIn_73 : decode cX3_takenIn 73 = .ok (.iconst 0, 1) := by decide +kernel
theorem dX3_takenIn_74 : decode cX3_takenIn 74 = .ok (.iadd, 1) := by decide +kernel
theorem dX3_takenIn_75 : decode cX3_takenIn 75 = .ok (.istore 4, 2) := by decide +kernel
theorem dX3_takenIn_77 : decode cX3_takenIn 77 = .ok (.iinc 6 1, 3) := by decide +kernel
theorem dX3_takenIn_80 : decode cX3_takenIn 80 = .ok (.goto (-62), 3) := by decide +kernel
theorem dX3_takenIn_83 : decode cX3_takenIn 83 = .ok (.iinc 5 1, 3) := by decide +kernel
theorem dX3_takenIn_86 : decode cX3_takenIn 86 = .ok (.goto (-80), 3) := by decide +kernel
theorem dX3_takenIn_89 : decode cX3_takenIn 89 = .ok (.iload 4, 2) := by decide +kernel
theorem dX3_takenIn_91 : decode cX3_takenIn 91 = .ok (.ireturn, 1) := by decide +kernel
set_option maxRecDepth 20000 in
theorem ggX3_fits_X3_count : GoodIn wsX3_fits wsX3_count := goodIn_r _ [6, 7, 8, 9, 10, 11, 12, 13, 14, 15, 16, 17, 18, 19, 20, 21, 22, 23, 24, 25, 26, 27, 28] (by decide +kernel) (by decide +kernel)
set_option maxRecDepth 20000 in
theorem gX3_fits_X3_count : GoodIn wsX3_fits (wsV RX3 86 RX3 yX3_count wsX3_count) := goodIn_app (goodIn_of _ (by decide +kernel)) ggX3_fits_X3_count
theorem dX3_fits_0 : decode cX3_fits 0 = .ok (.iconst 1, 1) := by decide +kernel
theorem dX3_fits_1 : decode cX3_fits 1 = .ok (.istore_n 2, 1) := by decide +kernel
theorem dX3_fits_2 : decode cX3_fits 2 = .ok (.iconst 0, 1) := by decide +kernel
theorem dX3_fits_3 : decode cX3_fits 3 = .ok (.istore_n 3, 1) := by decide +kernel
theorem dX3_fits_4 : decode cX3_fits 4 = .ok (.iload_n 3, 1) := by decide +kernel
theorem dX3_fits_5 : decode cX3_fits 5 = .ok (.aload_n 0, 1) := by decide +kernel
theorem dX3_fits_6 : decode cX3_fits 6 = .ok (.getfield 48, 3) := by decide +kernel
theorem dX3_fits_9 : decode cX3_fits 9 = .ok (.if_icmp .ge 29, 3) := by decide +kernel
theorem dX3_fits_12 : decode cX3_fits 12 = .ok (.aload_n 0, 1) := by decide +kernel
theorem dX3_fits_13 : decode cX3_fits 13 = .ok (.iload_n 3, 1) := by decide +kernel
theorem dX3_fits_14 : decode cX3_fits 14 = .ok (.iload_n 1, 1) := by decide +kernel
theorem dX3_fits_15 : decode cX3_fits 15 = .ok (.iconst 1, 1) := by decide +kernel
theorem dX3_fits_16 : decode cX3_fits 16 = .ok (.invokevirtual 86, 3) := by decide +kernel
theorem dX3_fits_19 : decode cX3_fits 19 = .ok (.ifCond .eq 11, 3) := by decide +kernel
theorem dX3_fits_22 : decode cX3_fits 22 = .ok (.iload_n 2, 1) := by decide +kernel
theorem dX3_fits_23 : decode cX3_fits 23 = .ok (.ifCond .eq 7, 3) := by decide +kernel
theorem dX3_fits_26 : decode cX3_fits 26 = .ok (.iconst 1, 1) := by decide +kernel
theorem dX3_fits_27 : decode cX3_fits 27 = .ok (.goto 4, 3) := by decide +kernel
theorem dX3_fits_30 : decode cX3_fits 30 = .ok (.iconst 0, 1) := by decide +kernel
theorem dX3_fits_31 : decode cX3_fits 31 = .ok (.istore_n 2, 1) := by decide +kernel
theorem dX3_fits_32 : decode cX3_fits 32 = .ok (.iinc 3 1, 3) := by decide +kernel
theorem dX3_fits_35 : decode cX3_fits 35 = .ok (.goto (-31), 3) := by decide +kernel
theorem dX3_fits_38 : decode cX3_fits 38 = .ok (.iconst 0, 1) := by decide +kernel
theorem dX3_fits_39 : decode cX3_fits 39 = .ok (.istore_n 3, 1) := by decide +kernel
theorem dX3_fits_40 : decode cX3_fits 40 = .ok (.iload_n 3, 1) := by decide +kernel
theorem dX3_fits_41 : decode cX3_fits 41 = .ok (.aload_n 0, 1) := by decide +kernel
theorem dX3_fits_42 : decode cX3_fits 42 = .ok (.getfield 48, 3) := by decide +kernel
theorem dX3_fits_45 : decode cX3_fits 45 = .ok (.if_icmp .ge 29, 3) := by decide +kernel
theorem dX3_fits_48 : decode cX3_fits 48 = .ok (.aload_n 0, 1) := by decide +kernel
theorem dX3_fits_49 : decode cX3_fits 49 = .ok (.iload_n 3, 1) := by decide +kernel
theorem dX3_fits_50 : decode cX3_fits 50 = .ok (.iload_n 1, 1) := by decide +kernel
theorem dX3_fits_51 : decode cX3_fits 51 = .ok (.iconst (-1), 1) := by decide +kernel
theorem dX3_fits_52 : decode cX3_fits 52 = .ok (.invokevirtual 86, 3) := by decide +kernel
theorem dX3_fits_55 : decode cX3_fits 55 = .ok (.ifCond .eq 11, 3) := by decide +kernel
theorem dX3_fits_58 : decode cX3_fits 58 = .ok (.iload_n 2, 1) := by decide +kernel
theorem dX3_fits_59 : decode cX3_fits 59 = .ok (.ifCond .eq 7, 3) := by decide +kernel
theorem dX3_fits_62 : decode cX3_fits 62 = .ok (.iconst 1, 1) := by decide +kernel
theorem dX3_fits_63 : decode cX3_fits 63 = .ok (.goto 4, 3) := by decide +kernel
theorem dX3_fits_66 : decode cX3_fits 66 = .ok (.iconst 0, 1) := by decide +kernel
theorem dX3_fits_67 : decode cX3_fits 67 = .ok (.istore_n 2, 1) := by decide +kernel
theorem dX3_fits_68 : decode cX3_fits 68 = .ok (.iinc 3 1, 3) := by decide +kernel
theorem dX3_fits_71 : decode cX3_fits 71 = .ok (.goto (-31), 3) := by decide +kernel
theorem dX3_fits_74 : decode cX3_fits 74 = .ok (.iload_n 2, 1) := by decide +kernel
theorem dX3_fits_75 : decode cX3_fits 75 = .ok (.ireturn, 1) := by decide +kernel
theorem dX3_count_0 : decode cX3_count 0 = .ok (.iconst 1, 1) := by decide +kernel
theorem dX3_count_1 : decode cX3_count 1 = .ok (.istore 4, 2) := by decide +kernel
theorem dX3_count_3 : decode cX3_count 3 = .ok (.iconst 0, 1) := by decide +kernel
theorem dX3_count_4 : decode cX3_count 4 = .ok (.istore 5, 2) := by decide +kernel
theorem dX3_count_6 : decode cX3_count 6 = .ok (.iload 5, 2) := by decide +kernel
theorem dX3_count_8 : decode cX3_count 8 = .ok (.aload_n 0, 1) := by decide +kernel
theorem dX3_count_9 : decode cX3_count 9 = .ok (.getfield 16, 3) := by decide +kernel
theorem dX3_count_12 : decode cX3_count 12 = .ok (.iload_n 1, 1) := by decide +kernel
theorem dX3_count_13 : decode cX3_count 13 = .ok (.iaload, 1) := by decide +kernel
theorem dX3_count_14 : decode cX3_count 14 = .ok (.if_icmp .ge 88, 3) := by decide +kernel
theorem dX3_count_17 : decode cX3_count 17 = .ok (.aload_n 0, 1) := by decide +kernel
theorem dX3_count_18 : decode cX3_count 18 = .ok (.getfield 37, 3) := by decide +kernel
theorem dX3_count_21 : decode cX3_count 21 = .ok (.iload_n 1, 1) := by decide +kernel
theorem dX3_count_22 : decode cX3_count 22 = .ok (.baload, 1) := by decide +kernel
theorem dX3_count_23 : decode cX3_count 23 = .ok (.ifCond .eq 79, 3) := by decide +kernel
theorem dX3_count_26 : decode cX3_count 26 = .ok (.sipush 200, 3) := by decide +kernel
theorem dX3_count_29 : decode cX3_count 29 = .ok (.aload_n 0, 1) := by decide +kernel
theorem dX3_count_30 : decode cX3_count 30 = .ok (.getfield 13, 3) := by decide +kernel
theorem dX3_count_33 : decode cX3_count 33 = .ok (.iload_n 1, 1) := by decide +kernel
theorem dX3_count_34 : decode cX3_count 34 = .ok (.iaload, 1) := by decide +kernel
theorem dX3_count_35 : decode cX3_count 35 = .ok (.imul, 1) := by decide +kernel
theorem dX3_count_36 : decode cX3_count 36 = .ok (.aload_n 0, 1) := by decide +kernel
theorem dX3_count_37 : decode cX3_count 37 = .ok (.getfield 31, 3) := by decide +kernel
theorem dX3_count_40 : decode cX3_count 40 = .ok (.iload_n 1, 1) := by decide +kernel
theorem dX3_count_41 : decode cX3_count 41 = .ok (.iaload, 1) := by decide +kernel
theorem dX3_count_42 : decode cX3_count 42 = .ok (.iload 5, 2) := by decide +kernel
theorem dX3_count_44 : decode cX3_count 44 = .ok (.iadd, 1) := by decide +kernel
theorem dX3_count_45 : decode cX3_count 45 = .ok (.iload_n 2, 1) := by decide +kernel
theorem dX3_count_46 : decode cX3_count 46 = .ok (.irem, 1) := by decide +kernel
theorem dX3_count_47 : decode cX3_count 47 = .ok (.iadd, 1) := by decide +kernel
theorem dX3_count_48 : decode cX3_count 48 = .ok (.istore 6, 2) := by decide +kernel
theorem dX3_count_50 : decode cX3_count 50 = .ok (.aload_n 0, 1) := by decide +kernel
theorem dX3_count_51 : decode cX3_count 51 = .ok (.getfield 41, 3) := by decide +kernel
theorem dX3_count_54 : decode cX3_count 54 = .ok (.iload 6, 2) := by decide +kernel
theorem dX3_count_56 : decode cX3_count 56 = .ok (.dup2, 1) := by decide +kernel
theorem dX3_count_57 : decode cX3_count 57 = .ok (.iaload, 1) := by decide +kernel
theorem dX3_count_58 : decode cX3_count 58 = .ok (.iload_n 3, 1) := by decide +kernel
theorem dX3_count_59 : decode cX3_count 59 = .ok (.iadd, 1) := by decide +kernel
theorem dX3_count_60 : decode cX3_count 60 = .ok (.iastore, 1) := by decide +kernel
theorem dX3_count_61 : decode cX3_count 61 = .ok (.iload 4, 2) := by decide +kernel
theorem dX3_count_63 : decode cX3_count 63 = .ok (.iload_n 3, 1) := by decide +kernel
theorem dX3_count_64 : decode cX3_count 64 = .ok (.ifCond .lt 24, 3) := by decide +kernel
theorem dX3_count_67 : decode cX3_count 67 = .ok (.aload_n 0, 1) := by decide +kernel
theorem dX3_count_68 : decode cX3_count 68 = .ok (.getfield 41, 3) := by decide +kernel
theorem dX3_count_71 : decode cX3_count 71 = .ok (.iload 6, 2) := by decide +kernel
theorem dX3_count_73 : decode cX3_count 73 = .ok (.iaload, 1) := by decide +kernel
theorem dX3_count_74 : decode cX3_count 74 = .ok (.aload_n 0, 1) := by decide +kernel
theorem dX3_count_75 : decode cX3_count 75 = .ok (.getfield 7, 3) := by decide +kernel
theorem dX3_count_78 : decode cX3_count 78 = .ok (.aload_n 0, 1) := by decide +kernel
theorem dX3_count_79 : decode cX3_count 79 = .ok (.getfield 13, 3) := by decide +kernel
theorem dX3_count_82 : decode cX3_count 82 = .ok (.iload_n 1, 1) := by decide +kernel
theorem dX3_count_83 : decode cX3_count 83 = .ok (.iaload, 1) := by decide +kernel
theorem dX3_count_84 : decode cX3_count 84 = .ok (.iaload, 1) := by decide +kernel
theorem dX3_count_85 : decode cX3_count 85 = .ok (.if_icmp .gt 7, 3) := by decide +kernel
theorem dX3_count_88 : decode cX3_count 88 = .ok (.iconst 1, 1) := by decide +kernel
theorem dX3_count_89 : decode cX3_count 89 = .ok (.goto 4, 3) := by decide +kernel
theorem dX3_count_92 : decode cX3_count 92 = .ok (.iconst 0, 1) := by decide +kernel
theorem dX3_count_93 : decode cX3_count 93 = .ok (.iand, 1) := by decide +kernel
theorem dX3_count_94 : decode cX3_count 94 = .ok (.istore 4, 2) := by decide +kernel
theorem dX3_count_96 : decode cX3_count 96 = .ok (.iinc 5 1, 3) := by decide +kernel
theorem dX3_count_99 : decode cX3_count 99 = .ok (.goto (-93), 3) := by decide +kernel
theorem dX3_count_102 : decode cX3_count 102 = .ok (.iload 4, 2) := by decide +kernel
theorem dX3_count_104 : decode cX3_count 104 = .ok (.ireturn, 1) := by decide +kernel
set_option maxRecDepth 20000 in
theorem ggX3_attempt_X3_findHeights : GoodIn wsX3_attempt wsX3_findHeights := goodIn_r _ [7, 1, 8, 9, 10, 11, 6, 12, 13, 14, 15, 16, 17, 18, 19, 20, 21, 51, 52, 53, 54, 55, 56, 57, 58, 59, 60, 61, 62, 63, 64, 65, 66] (by decide +kernel) (by decide +kernel)
set_option maxRecDepth 20000 in
theorem gX3_attempt_X3_findHeights : GoodIn wsX3_attempt (wsV RX3 80 RX3 yX3_findHeights wsX3_findHeights) := goodIn_app (goodIn_of _ (by decide +kernel)) ggX3_attempt_X3_findHeights
set_option maxRecDepth 20000 in
theorem ggX3_attempt_X3_next : GoodIn wsX3_attempt wsX3_next := goodIn_r _ [25, 1, 2, 8, 51, 52, 53, 54, 55, 56, 57, 58, 59, 60, 61, 62, 63, 64, 65, 66] (by decide +kernel) (by decide +kernel)
set_option maxRecDepth 20000 in
theorem gX3_attempt_X3_next : GoodIn wsX3_attempt (wsV RX3 89 RX3 yX3_next wsX3_next) := goodIn_app (goodIn_of _ (by decide +kernel)) ggX3_attempt_X3_next
set_option maxRecDepth 20000 in
theorem ggX3_attempt_X3_place : GoodIn wsX3_attempt wsX3_place := goodIn_r _ [29, 30, 13, 14, 2, 15, 31, 32, 33, 34, 35, 36, 37, 38, 16, 17, 18, 6, 19, 20, 21, 39, 40, 41, 42, 1, 43, 44, 45, 46, 47, 48, 49, 50, 51, 52, 53, 54, 55, 56, 57, 58, 59, 60, 61, 62, 63, 64, 65, 66] (by decide +kernel) (by decide +kernel)
set_option maxRecDepth 20000 in
theorem gX3_attempt_X3_place : GoodIn wsX3_attempt (wsV RX3 92 RX3 yX3_place wsX3_place) := goodIn_app (goodIn_of _ (by decide +kernel)) ggX3_attempt_X3_place
theorem dX3_attempt_0 : decode cX3_attempt 0 = .ok (.aload_n 0, 1) := by decide +kernel
theorem dX3_attempt_1 : decode cX3_attempt 1 = .ok (.iload_n 1, 1) := by decide +kernel
theorem dX3_attempt_2 : decode cX3_attempt 2 = .ok (.invokevirtual 80, 3) := by decide +kernel
theorem dX3_attempt_5 : decode cX3_attempt 5 = .ok (.pop, 1) := by decide +kernel
theorem dX3_attempt_6 : decode cX3_attempt 6 = .ok (.iconst 0, 1) := by decide +kernel
theorem dX3_attempt_7 : decode cX3_attempt 7 = .ok (.istore_n 2, 1) := by decide +kernel
theorem dX3_attempt_8 : decode cX3_attempt 8 = .ok (.iload_n 2, 1) := by decide +kernel
theorem dX3_attempt_9 : decode cX3_attempt 9 = .ok (.aload_n 0, 1) := by decide +kernel
theorem dX3_attempt_10 : decode cX3_attempt 10 = .ok (.getfield 48, 3) := by decide +kernel
theorem dX3_attempt_13 : decode cX3_attempt 13 = .ok (.if_icmp .ge 16, 3) := by decide +kernel
theorem dX3_attempt_16 : decode cX3_attempt 16 = .ok (.aload_n 0, 1) := by decide +kernel
theorem dX3_attempt_17 : decode cX3_attempt 17 = .ok (.getfield 37, 3) := by decide +kernel
theorem dX3_attempt_20 : decode cX3_attempt 20 = .ok (.iload_n 2, 1) := by decide +kernel
theorem dX3_attempt_21 : decode cX3_attempt 21 = .ok (.iconst 0, 1) := by decide +kernel
theorem dX3_attempt_22 : decode cX3_attempt 22 = .ok (.bastore, 1) := by decide +kernel
theorem dX3_attempt_23 : decode cX3_attempt 23 = .ok (.iinc 2 1, 3) := by decide +kernel
theorem dX3_attempt_26 : decode cX3_attempt 26 = .ok (.goto (-18), 3) := by decide +kernel
theorem dX3_attempt_29 : decode cX3_attempt 29 = .ok (.iconst 0, 1) := by decide +kernel
theorem dX3_attempt_30 : decode cX3_attempt 30 = .ok (.istore_n 2, 1) := by decide +kernel
theorem dX3_attempt_31 : decode cX3_attempt 31 = .ok (.iload_n 2, 1) := by decide +kernel
theorem dX3_attempt_32 : decode cX3_attempt 32 = .ok (.aload_n 0, 1) := by decide +kernel
theorem dX3_attempt_33 : decode cX3_attempt 33 = .ok (.getfield 48, 3) := by decide +kernel
theorem dX3_attempt_36 : decode cX3_attempt 36 = .ok (.if_icmp .ge 23, 3) := by decide +kernel
theorem dX3_attempt_39 : decode cX3_attempt 39 = .ok (.aload_n 0, 1) := by decide +kernel
theorem dX3_attempt_40 : decode cX3_attempt 40 = .ok (.aload_n 0, 1) := by decide +kernel
theorem dX3_attempt_41 : decode cX3_attempt 41 = .ok (.invokevirtual 89, 3) := by decide +kernel
theorem dX3_attempt_44 : decode cX3_attempt 44 = .ok (.iload_n 1, 1) := by decide +kernel
theorem dX3_attempt_45 : decode cX3_attempt 45 = .ok (.invokevirtual 92, 3) := by decide +kernel
theorem dX3_attempt_48 : decode cX3_attempt 48 = .ok (.ifCond .ne 5, 3) := by decide +kernel
theorem dX3_attempt_51 : decode cX3_attempt 51 = .ok (.iconst 0, 1) := by decide +kernel
theorem dX3_attempt_52 : decode cX3_attempt 52 = .ok (.ireturn, 1) := by decide +kernel
theorem dX3_attempt_53 : decode cX3_attempt 53 = .ok (.iinc 2 1, 3) := by decide +kernel
theorem dX3_attempt_56 : decode cX3_attempt 56 = .ok (.goto (-25), 3) := by decide +kernel
theorem dX3_attempt_59 : decode cX3_attempt 59 = .ok (.iconst 1, 1) := by decide +kernel
theorem dX3_attempt_60 : decode cX3_attempt 60 = .ok (.ireturn, 1) := by decide +kernel
theorem dX3_next_0 : decode cX3_next 0 = .ok (.iconst (-1), 1) := by decide +kernel
theorem dX3_next_1 : decode cX3_next 1 = .ok (.istore_n 1, 1) := by decide +kernel
theorem dX3_next_2 : decode cX3_next 2 = .ok (.iconst 0, 1) := by decide +kernel
theorem dX3_next_3 : decode cX3_next 3 = .ok (.istore_n 2, 1) := by decide +kernel
theorem dX3_next_4 : decode cX3_next 4 = .ok (.iload_n 2, 1) := by decide +kernel
theorem dX3_next_5 : decode cX3_next 5 = .ok (.aload_n 0, 1) := by decide +kernel
theorem dX3_next_6 : decode cX3_next 6 = .ok (.getfield 48, 3) := by decide +kernel
theorem dX3_next_9 : decode cX3_next 9 = .ok (.if_icmp .ge 40, 3) := by decide +kernel
theorem dX3_next_12 : decode cX3_next 12 = .ok (.aload_n 0, 1) := by decide +kernel
theorem dX3_next_13 : decode cX3_next 13 = .ok (.getfield 37, 3) := by decide +kernel
theorem dX3_next_16 : decode cX3_next 16 = .ok (.iload_n 2, 1) := by decide +kernel
theorem dX3_next_17 : decode cX3_next 17 = .ok (.baload, 1) := by decide +kernel
theorem dX3_next_18 : decode cX3_next 18 = .ok (.ifCond .ne 25, 3) := by decide +kernel
theorem dX3_next_21 : decode cX3_next 21 = .ok (.iload_n 1, 1) := by decide +kernel
theorem dX3_next_22 : decode cX3_next 22 = .ok (.iconst (-1), 1) := by decide +kernel
theorem dX3_next_23 : decode cX3_next 23 = .ok (.if_icmp .eq 18, 3) := by decide +kernel
theorem dX3_next_26 : decode cX3_next 26 = .ok (.aload_n 0, 1) := by decide +kernel
theorem dX3_next_27 : decode cX3_next 27 = .ok (.getfield 34, 3) := by decide +kernel
theorem dX3_next_30 : decode cX3_next 30 = .ok (.iload_n 2, 1) := by decide +kernel
theorem dX3_next_31 : decode cX3_next 31 = .ok (.iaload, 1) := by decide +kernel
theorem dX3_next_32 : decode cX3_next 32 = .ok (.aload_n 0, 1) := by decide +kernel
theorem dX3_next_33 : decode cX3_next 33 = .ok (.getfield 34, 3) := by decide +kernel
theorem dX3_next_36 : decode cX3_next 36 = .ok (.iload_n 1, 1) := by decide +kernel
theorem dX3_next_37 : decode cX3_next 37 = .ok (.iaload, 1) := by decide +kernel
theorem dX3_next_38 : decode cX3_next 38 = .ok (.if_icmp .le 5, 3) := by decide +kernel
theorem dX3_next_41 : decode cX3_next 41 = .ok (.iload_n 2, 1) := by decide +kernel
theorem dX3_next_42 : decode cX3_next 42 = .ok (.istore_n 1, 1) := by decide +kernel
theorem dX3_next_43 : decode cX3_next 43 = .ok (.iinc 2 1, 3) := by decide +kernel
theorem dX3_next_46 : decode cX3_next 46 = .ok (.goto (-42), 3) := by decide +kernel
theorem dX3_next_49 : decode cX3_next 49 = .ok (.iload_n 1, 1) := by decide +kernel
theorem dX3_next_50 : decode cX3_next 50 = .ok (.ireturn, 1) := by decide +kernel
set_option maxRecDepth 20000 in
theorem ggX3_place_X3_lengthOf : GoodIn wsX3_place wsX3_lengthOf := goodIn_r _ [18, 19, 20, 34, 35, 36, 37, 38, 39, 40, 41, 42, 43, 44, 45, 46, 47, 48, 49] (by decide +kernel) (by decide +kernel)
set_option maxRecDepth 20000 in
theorem gX3_place_X3_lengthOf : GoodIn wsX3_place (wsV RX3 76 RX3 yX3_lengthOf wsX3_lengthOf) := goodIn_app (goodIn_of _ (by decide +kernel)) ggX3_place_X3_lengthOf
set_option maxRecDepth 20000 in
theorem ggX3_place_X3_fits : GoodIn wsX3_place wsX3_fits := goodIn_r _ [24, 25, 26, 27, 28, 17, 29, 30, 4, 31, 6, 32, 33, 34, 35, 36, 37, 38, 39, 40, 41, 42, 43, 44, 45, 46, 47, 48, 49] (by decide +kernel) (by decide +kernel)
set_option maxRecDepth 20000 in
theorem gX3_place_X3_fits : GoodIn wsX3_place (wsV RX3 105 RX3 yX3_fits wsX3_fits) := goodIn_app (goodIn_of _ (by decide +kernel)) ggX3_place_X3_fits
theorem dX3_place_0 : decode cX3_place 0 = .ok (.iconst 0, 1) := by decide +kernel
theorem dX3_place_1 : decode cX3_place 1 = .ok (.istore_n 3, 1) := by decide +kernel
theorem dX3_place_2 : decode cX3_place 2 = .ok (.ldc 96, 2) := by decide +kernel
theorem dX3_place_4 : decode cX3_place 4 = .ok (.istore 4, 2) := by decide +kernel
theorem dX3_place_6 : decode cX3_place 6 = .ok (.iconst 0, 1) := by decide +kernel
theorem dX3_place_7 : decode cX3_place 7 = .ok (.istore 5, 2) := by decide +kernel
theorem dX3_place_9 : decode cX3_place 9 = .ok (.iload 5, 2) := by decide +kernel
theorem dX3_place_11 : decode cX3_place 11 = .ok (.aload_n 0, 1) := by decide +kernel
theorem dX3_place_12 : decode cX3_place 12 = .ok (.getfield 66, 3) := by decide +kernel
theorem dX3_place_15 : decode cX3_place 15 = .ok (.if_icmp .ge 113, 3) := by decide +kernel
theorem dX3_place_18 : decode cX3_place 18 = .ok (.aload_n 0, 1) := by decide +kernel
theorem dX3_place_19 : decode cX3_place 19 = .ok (.getfield 22, 3) := by decide +kernel
theorem dX3_place_22 : decode cX3_place 22 = .ok (.iload 5, 2) := by decide +kernel
theorem dX3_place_24 : decode cX3_place 24 = .ok (.iaload, 1) := by decide +kernel
theorem dX3_place_25 : decode cX3_place 25 = .ok (.iload_n 1, 1) := by decide +kernel
theorem dX3_place_26 : decode cX3_place 26 = .ok (.if_icmp .ne 43, 3) := by decide +kernel
theorem dX3_place_29 : decode cX3_place 29 = .ok (.aload_n 0, 1) := by decide +kernel
theorem dX3_place_30 : decode cX3_place 30 = .ok (.getfield 37, 3) := by decide +kernel
theorem dX3_place_33 : decode cX3_place 33 = .ok (.aload_n 0, 1) := by decide +kernel
theorem dX3_place_34 : decode cX3_place 34 = .ok (.getfield 19, 3) := by decide +kernel
theorem dX3_place_37 : decode cX3_place 37 = .ok (.iload 5, 2) := by decide +kernel
theorem dX3_place_39 : decode cX3_place 39 = .ok (.iaload, 1) := by decide +kernel
theorem dX3_place_40 : decode cX3_place 40 = .ok (.baload, 1) := by decide +kernel
theorem dX3_place_41 : decode cX3_place 41 = .ok (.ifCond .eq 28, 3) := by decide +kernel
theorem dX3_place_44 : decode cX3_place 44 = .ok (.iload_n 3, 1) := by decide +kernel
theorem dX3_place_45 : decode cX3_place 45 = .ok (.aload_n 0, 1) := by decide +kernel
theorem dX3_place_46 : decode cX3_place 46 = .ok (.getfield 31, 3) := by decide +kernel
theorem dX3_place_49 : decode cX3_place 49 = .ok (.aload_n 0, 1) := by decide +kernel
theorem dX3_place_50 : decode cX3_place 50 = .ok (.getfield 19, 3) := by decide +kernel
theorem dX3_place_53 : decode cX3_place 53 = .ok (.iload 5, 2) := by decide +kernel
theorem dX3_place_55 : decode cX3_place 55 = .ok (.iaload, 1) := by decide +kernel
theorem dX3_place_56 : decode cX3_place 56 = .ok (.iaload, 1) := by decide +kernel
theorem dX3_place_57 : decode cX3_place 57 = .ok (.aload_n 0, 1) := by decide +kernel
theorem dX3_place_58 : decode cX3_place 58 = .ok (.iload 5, 2) := by decide +kernel
theorem dX3_place_60 : decode cX3_place 60 = .ok (.iload_n 2, 1) := by decide +kernel
theorem dX3_place_61 : decode cX3_place 61 = .ok (.invokevirtual 76, 3) := by decide +kernel
theorem dX3_place_64 : decode cX3_place 64 = .ok (.iadd, 1) := by decide +kernel
theorem dX3_place_65 : decode cX3_place 65 = .ok (.invokestatic 97, 3) := by decide +kernel
theorem dX3_place_68 : decode cX3_place 68 = .ok (.istore_n 3, 1) := by decide +kernel
theorem dX3_place_69 : decode cX3_place 69 = .ok (.aload_n 0, 1) := by decide +kernel
theorem dX3_place_70 : decode cX3_place 70 = .ok (.getfield 19, 3) := by decide +kernel
theorem dX3_place_73 : decode cX3_place 73 = .ok (.iload 5, 2) := by decide +kernel
theorem dX3_place_75 : decode cX3_place 75 = .ok (.iaload, 1) := by decide +kernel
theorem dX3_place_76 : decode cX3_place 76 = .ok (.iload_n 1, 1) := by decide +kernel
theorem dX3_place_77 : decode cX3_place 77 = .ok (.if_icmp .ne 45, 3) := by decide +kernel
theorem dX3_place_80 : decode cX3_place 80 = .ok (.aload_n 0, 1) := by decide +kernel
theorem dX3_place_81 : decode cX3_place 81 = .ok (.getfield 37, 3) := by decide +kernel
theorem dX3_place_84 : decode cX3_place 84 = .ok (.aload_n 0, 1) := by decide +kernel
theorem dX3_place_85 : decode cX3_place 85 = .ok (.getfield 22, 3) := by decide +kernel
theorem dX3_place_88 : decode cX3_place 88 = .ok (.iload 5, 2) := by decide +kernel
theorem dX3_place_90 : decode cX3_place 90 = .ok (.iaload, 1) := by decide +kernel
theorem dX3_place_91 : decode cX3_place 91 = .ok (.baload, 1) := by decide +kernel
theorem dX3_place_92 : decode cX3_place 92 = .ok (.ifCond .eq 30, 3) := by decide +kernel
theorem dX3_place_95 : decode cX3_place 95 = .ok (.iload 4, 2) := by decide +kernel
theorem dX3_place_97 : decode cX3_place 97 = .ok (.aload_n 0, 1) := by decide +kernel
theorem dX3_place_98 : decode cX3_place 98 = .ok (.getfield 31, 3) := by decide +kernel
theorem dX3_place_101 : decode cX3_place 101 = .ok (.aload_n 0, 1) := by decide +kernel
theorem dX3_place_102 : decode cX3_place 102 = .ok (.getfield 22, 3) := by decide +kernel
theorem dX3_place_105 : decode cX3_place 105 = .ok (.iload 5, 2) := by decide +kernel
theorem dX3_place_107 : decode cX3_place 107 = .ok (.iaload, 1) := by decide +kernel
theorem dX3_place_108 : decode cX3_place 108 = .ok (.iaload, 1) := by decide +kernel
theorem dX3_place_109 : decode cX3_place 109 = .ok (.aload_n 0, 1) := by decide +kernel
theorem dX3_place_110 : decode cX3_place 110 = .ok (.iload 5, 2) := by decide +kernel
theorem dX3_place_112 : decode cX3_place 112 = .ok (.iload_n 2, 1) := by decide +kernel
theorem dX3_place_113 : decode cX3_place 113 = .ok (.invokevirtual 76, 3) := by decide +kernel
theorem dX3_place_116 : decode cX3_place 116 = .ok (.isub, 1) := by decide +kernel
theorem dX3_place_117 : decode cX3_place 117 = .ok (.invokestatic 102, 3) := by decide +kernel
theorem dX3_place_120 : decode cX3_place 120 = .ok (.istore 4, 2) := by decide +kernel
theorem dX3_place_122 : decode cX3_place 122 = .ok (.iinc 5 1, 3) := by decide +kernel
theorem dX3_place_125 : decode cX3_place 125 = .ok (.goto (-116), 3) := by decide +kernel
theorem dX3_place_128 : decode cX3_place 128 = .ok (.aload_n 0, 1) := by decide +kernel
theorem dX3_place_129 : decode cX3_place 129 = .ok (.getfield 37, 3) := by decide +kernel
theorem dX3_place_132 : decode cX3_place 132 = .ok (.iload_n 1, 1) := by decide +kernel
theorem dX3_place_133 : decode cX3_place 133 = .ok (.iconst 1, 1) := by decide +kernel
theorem dX3_place_134 : decode cX3_place 134 = .ok (.bastore, 1) := by decide +kernel
theorem dX3_place_135 : decode cX3_place 135 = .ok (.iconst 0, 1) := by decide +kernel
theorem dX3_place_136 : decode cX3_place 136 = .ok (.istore 5, 2) := by decide +kernel
theorem dX3_place_138 : decode cX3_place 138 = .ok (.iload 5, 2) := by decide +kernel
theorem dX3_place_140 : decode cX3_place 140 = .ok (.iload_n 2, 1) := by decide +kernel
theorem dX3_place_141 : decode cX3_place 141 = .ok (.if_icmp .ge 38, 3) := by decide +kernel
theorem dX3_place_144 : decode cX3_place 144 = .ok (.iload_n 3, 1) := by decide +kernel
theorem dX3_place_145 : decode cX3_place 145 = .ok (.iload 5, 2) := by decide +kernel
theorem dX3_place_147 : decode cX3_place 147 = .ok (.iadd, 1) := by decide +kernel
theorem dX3_place_148 : decode cX3_place 148 = .ok (.iload 4, 2) := by decide +kernel
theorem dX3_place_150 : decode cX3_place 150 = .ok (.if_icmp .gt 29, 3) := by decide +kernel
theorem dX3_place_153 : decode cX3_place 153 = .ok (.aload_n 0, 1) := by decide +kernel
theorem dX3_place_154 : decode cX3_place 154 = .ok (.getfield 31, 3) := by decide +kernel
theorem dX3_place_157 : decode cX3_place 157 = .ok (.iload_n 1, 1) := by decide +kernel
theorem dX3_place_158 : decode cX3_place 158 = .ok (.iload_n 3, 1) := by decide +kernel
theorem dX3_place_159 : decode cX3_place 159 = .ok (.iload 5, 2) := by decide +kernel
theorem dX3_place_161 : decode cX3_place 161 = .ok (.iadd, 1) := by decide +kernel
theorem dX3_place_162 : decode cX3_place 162 = .ok (.iastore, 1) := by decide +kernel
theorem dX3_place_163 : decode cX3_place 163 = .ok (.aload_n 0, 1) := by decide +kernel
theorem dX3_place_164 : decode cX3_place 164 = .ok (.iload_n 2, 1) := by decide +kernel
theorem dX3_place_165 : decode cX3_place 165 = .ok (.invokevirtual 105, 3) := by decide +kernel
theorem dX3_place_168 : decode cX3_place 168 = .ok (.ifCond .eq 5, 3) := by decide +kernel
theorem dX3_place_171 : decode cX3_place 171 = .ok (.iconst 1, 1) := by decide +kernel
theorem dX3_place_172 : decode cX3_place 172 = .ok (.ireturn, 1) := by decide +kernel
theorem dX3_place_173 : decode cX3_place 173 = .ok (.iinc 5 1, 3) := by decide +kernel
theorem dX3_place_176 : decode cX3_place 176 = .ok (.goto (-38), 3) := by decide +kernel
theorem dX3_place_179 : decode cX3_place 179 = .ok (.iconst 0, 1) := by decide +kernel
theorem dX3_place_180 : decode cX3_place 180 = .ok (.ireturn, 1) := by decide +kernel
set_option maxRecDepth 20000 in
theorem ggX3_schedule_X3_isIn : GoodIn wsX3_schedule wsX3_isIn := goodIn_r _ [11] (by decide +kernel) (by decide +kernel)
set_option maxRecDepth 20000 in
theorem gX3_schedule_X3_isIn : GoodIn wsX3_schedule (va_wsS RX3 51 yX3_isIn wsX3_isIn) := goodIn_app (goodIn_of _ (by decide +kernel)) ggX3_schedule_X3_isIn
set_option maxRecDepth 20000 in
theorem ggX3_schedule_X3_no : GoodIn wsX3_schedule wsX3_no := goodIn_r _ [15, 1, 73, 74, 75, 76, 77, 78, 79, 80, 81, 82, 83, 84, 85, 86, 87, 88] (by decide +kernel) (by decide +kernel)
set_option maxRecDepth 20000 in
theorem gX3_schedule_X3_no : GoodIn wsX3_schedule (wsV RX3 55 RX3 yX3_no wsX3_no) := goodIn_app (goodIn_of _ (by decide +kernel)) ggX3_schedule_X3_no
set_option maxRecDepth 20000 in
theorem ggX3_schedule_X3_byRecurrences : GoodIn wsX3_schedule wsX3_byRecurrences := goodIn_r _ [19, 20, 21, 22, 10, 23, 24, 25, 26, 27, 28, 29, 30, 31, 32, 33, 34, 35, 36, 37, 38, 73, 74, 75, 76, 77, 78, 79, 80, 81, 82, 83, 84, 85, 86, 87, 88] (by decide +kernel) (by decide +kernel)
set_option maxRecDepth 20000 in
theorem gX3_schedule_X3_byRecurrences : GoodIn wsX3_schedule (wsV RX3 83 RX3 yX3_byRecurrences wsX3_byRecurrences) := goodIn_app (goodIn_of _ (by decide +kernel)) ggX3_schedule_X3_byRecurrences
set_option maxRecDepth 20000 in
theorem ggX3_schedule_X3_byResources : GoodIn wsX3_schedule wsX3_byResources := goodIn_r _ [42, 24, 43, 44, 45, 73, 74, 75, 76, 77, 78, 79, 80, 81, 82, 83, 84, 85, 86, 87, 88] (by decide +kernel) (by decide +kernel)
set_option maxRecDepth 20000 in
theorem gX3_schedule_X3_byResources : GoodIn wsX3_schedule (wsV RX3 69 RX3 yX3_byResources wsX3_byResources) := goodIn_app (goodIn_of _ (by decide +kernel)) ggX3_schedule_X3_byResources
set_option maxRecDepth 20000 in
theorem ggX3_schedule_X3_attempt : GoodIn wsX3_schedule wsX3_attempt := goodIn_r _ [49, 24, 50, 20, 21, 22, 10, 23, 25, 26, 27, 28, 29, 30, 31, 32, 33, 34, 35, 36, 37, 38, 51, 52, 53, 54, 55, 56, 57, 58, 59, 60, 4, 5, 6, 7, 61, 62, 63, 64, 65, 66, 67, 68, 69, 70, 71, 44, 43, 72, 45, 73, 74, 75, 76, 77, 78, 79, 80, 81, 82, 83, 84, 85, 86, 87, 88] (by decide +kernel) (by decide +kernel)
set_option maxRecDepth 20000 in
theorem gX3_schedule_X3_attempt : GoodIn wsX3_schedule (wsV RX3 111 RX3 yX3_attempt wsX3_attempt) := goodIn_app (goodIn_of _ (by decide +kernel)) ggX3_schedule_X3_attempt
theorem dX3_schedule_0 : decode cX3_schedule 0 = .ok (.aload_n 0, 1) := by decide +kernel
theorem dX3_schedule_1 : decode cX3_schedule 1 = .ok (.iconst 0, 1) := by decide +kernel
theorem dX3_schedule_2 : decode cX3_schedule 2 = .ok (.putfield 44, 3) := by decide +kernel
theorem dX3_schedule_5 : decode cX3_schedule 5 = .ok (.iload_n 1, 1) := by decide +kernel
theorem dX3_schedule_6 : decode cX3_schedule 6 = .ok (.iconst 1, 1) := by decide +kernel
theorem dX3_schedule_7 : decode cX3_schedule 7 = .ok (.sipush 200, 3) := by decide +kernel
theorem dX3_schedule_10 : decode cX3_schedule 10 = .ok (.invokestatic 51, 3) := by decide +kernel
theorem dX3_schedule_13 : decode cX3_schedule 13 = .ok (.ifCond .ne 9, 3) := by decide +kernel
theorem dX3_schedule_16 : decode cX3_schedule 16 = .ok (.aload_n 0, 1) := by decide +kernel
theorem dX3_schedule_17 : decode cX3_schedule 17 = .ok (.iconst 1, 1) := by decide +kernel
theorem dX3_schedule_18 : decode cX3_schedule 18 = .ok (.invokevirtual 55, 3) := by decide +kernel
theorem dX3_schedule_21 : decode cX3_schedule 21 = .ok (.ireturn, 1) := by decide +kernel
theorem dX3_schedule_22 : decode cX3_schedule 22 = .ok (.aload_n 0, 1) := by decide +kernel
theorem dX3_schedule_23 : decode cX3_schedule 23 = .ok (.iconst 0, 1) := by decide +kernel
theorem dX3_schedule_24 : decode cX3_schedule 24 = .ok (.putfield 108, 3) := by decide +kernel
theorem dX3_schedule_27 : decode cX3_schedule 27 = .ok (.aload_n 0, 1) := by decide +kernel
theorem dX3_schedule_28 : decode cX3_schedule 28 = .ok (.iconst 0, 1) := by decide +kernel
theorem dX3_schedule_29 : decode cX3_schedule 29 = .ok (.putfield 59, 3) := by decide +kernel
theorem dX3_schedule_32 : decode cX3_schedule 32 = .ok (.aload_n 0, 1) := by decide +kernel
theorem dX3_schedule_33 : decode cX3_schedule 33 = .ok (.invokevirtual 83, 3) := by decide +kernel
theorem dX3_schedule_36 : decode cX3_schedule 36 = .ok (.istore_n 2, 1) := by decide +kernel
theorem dX3_schedule_37 : decode cX3_schedule 37 = .ok (.iload_n 2, 1) := by decide +kernel
theorem dX3_schedule_38 : decode cX3_schedule 38 = .ok (.iconst (-1), 1) := by decide +kernel
theorem dX3_schedule_39 : decode cX3_schedule 39 = .ok (.if_icmp .ne 5, 3) := by decide +kernel
theorem dX3_schedule_42 : decode cX3_schedule 42 = .ok (.iconst (-1), 1) := by decide +kernel
theorem dX3_schedule_43 : decode cX3_schedule 43 = .ok (.ireturn, 1) := by decide +kernel
theorem dX3_schedule_44 : decode cX3_schedule 44 = .ok (.iload_n 2, 1) := by decide +kernel
theorem dX3_schedule_45 : decode cX3_schedule 45 = .ok (.aload_n 0, 1) := by decide +kernel
theorem dX3_schedule_46 : decode cX3_schedule 46 = .ok (.invokevirtual 69, 3) := by decide +kernel
theorem dX3_schedule_49 : decode cX3_schedule 49 = .ok (.invokestatic 97, 3) := by decide +kernel
theorem dX3_schedule_52 : decode cX3_schedule 52 = .ok (.istore_n 3, 1) := by decide +kernel
theorem dX3_schedule_53 : decode cX3_schedule 53 = .ok (.iload_n 3, 1) := by decide +kernel
theorem dX3_schedule_54 : decode cX3_schedule 54 = .ok (.iload_n 1, 1) := by decide +kernel
theorem dX3_schedule_55 : decode cX3_schedule 55 = .ok (.if_icmp .gt 37, 3) := by decide +kernel
theorem dX3_schedule_58 : decode cX3_schedule 58 = .ok (.aload_n 0, 1) := by decide +kernel
theorem dX3_schedule_59 : decode cX3_schedule 59 = .ok (.dup, 1) := by decide +kernel
theorem dX3_schedule_60 : decode cX3_schedule 60 = .ok (.getfield 108, 3) := by decide +kernel
theorem dX3_schedule_63 : decode cX3_schedule 63 = .ok (.iconst 1, 1) := by decide +kernel
theorem dX3_schedule_64 : decode cX3_schedule 64 = .ok (.iadd, 1) := by decide +kernel
theorem dX3_schedule_65 : decode cX3_schedule 65 = .ok (.putfield 108, 3) := by decide +kernel
theorem dX3_schedule_68 : decode cX3_schedule 68 = .ok (.aload_n 0, 1) := by decide +kernel
theorem dX3_schedule_69 : decode cX3_schedule 69 = .ok (.iload_n 3, 1) := by decide +kernel
theorem dX3_schedule_70 : decode cX3_schedule 70 = .ok (.invokevirtual 111, 3) := by decide +kernel
theorem dX3_schedule_73 : decode cX3_schedule 73 = .ok (.ifCond .ne 6, 3) := by decide +kernel
theorem dX3_schedule_76 : decode cX3_schedule 76 = .ok (.goto 10, 3) := by decide +kernel
theorem dX3_schedule_79 : decode cX3_schedule 79 = .ok (.aload_n 0, 1) := by decide +kernel
theorem dX3_schedule_80 : decode cX3_schedule 80 = .ok (.iload_n 3, 1) := by decide +kernel
theorem dX3_schedule_81 : decode cX3_schedule 81 = .ok (.putfield 59, 3) := by decide +kernel
theorem dX3_schedule_84 : decode cX3_schedule 84 = .ok (.iload_n 3, 1) := by decide +kernel
theorem dX3_schedule_85 : decode cX3_schedule 85 = .ok (.ireturn, 1) := by decide +kernel
theorem dX3_schedule_86 : decode cX3_schedule 86 = .ok (.iinc 3 1, 3) := by decide +kernel
theorem dX3_schedule_89 : decode cX3_schedule 89 = .ok (.goto (-36), 3) := by decide +kernel
theorem dX3_schedule_92 : decode cX3_schedule 92 = .ok (.iconst (-1), 1) := by decide +kernel
theorem dX3_schedule_93 : decode cX3_schedule 93 = .ok (.ireturn, 1) := by decide +kernel
theorem dX3_attempts_0 : decode cX3_attempts 0 = .ok (.aload_n 0, 1) := by decide +kernel
theorem dX3_attempts_1 : decode cX3_attempts 1 = .ok (.iconst 0, 1) := by decide +kernel
theorem dX3_attempts_2 : decode cX3_attempts 2 = .ok (.putfield 44, 3) := by decide +kernel
theorem dX3_attempts_5 : decode cX3_attempts 5 = .ok (.aload_n 0, 1) := by decide +kernel
theorem dX3_attempts_6 : decode cX3_attempts 6 = .ok (.getfield 108, 3) := by decide +kernel
theorem dX3_attempts_9 : decode cX3_attempts 9 = .ok (.ireturn, 1) := by decide +kernel
theorem dX3_hasSchedule_0 : decode cX3_hasSchedule 0 = .ok (.aload_n 0, 1) := by decide +kernel
theorem dX3_hasSchedule_1 : decode cX3_hasSchedule 1 = .ok (.iconst 0, 1) := by decide +kernel
theorem dX3_hasSchedule_2 : decode cX3_hasSchedule 2 = .ok (.putfield 44, 3) := by decide +kernel
theorem dX3_hasSchedule_5 : decode cX3_hasSchedule 5 = .ok (.aload_n 0, 1) := by decide +kernel
theorem dX3_hasSchedule_6 : decode cX3_hasSchedule 6 = .ok (.getfield 59, 3) := by decide +kernel
theorem dX3_hasSchedule_9 : decode cX3_hasSchedule 9 = .ok (.ifCond .le 7, 3) := by decide +kernel
theorem dX3_hasSchedule_12 : decode cX3_hasSchedule 12 = .ok (.iconst 1, 1) := by decide +kernel
theorem dX3_hasSchedule_13 : decode cX3_hasSchedule 13 = .ok (.goto 4, 3) := by decide +kernel
theorem dX3_hasSchedule_16 : decode cX3_hasSchedule 16 = .ok (.iconst 0, 1) := by decide +kernel
theorem dX3_hasSchedule_17 : decode cX3_hasSchedule 17 = .ok (.ireturn, 1) := by decide +kernel
theorem dX3_has_0 : decode cX3_has 0 = .ok (.aload_n 0, 1) := by decide +kernel
theorem dX3_has_1 : decode cX3_has 1 = .ok (.aload_n 0, 1) := by decide +kernel
theorem dX3_has_2 : decode cX3_has 2 = .ok (.getfield 59, 3) := by decide +kernel
theorem dX3_has_5 : decode cX3_has 5 = .ok (.ifCond .le 7, 3) := by decide +kernel
theorem dX3_has_8 : decode cX3_has 8 = .ok (.iconst 0, 1) := by decide +kernel
theorem dX3_has_9 : decode cX3_has 9 = .ok (.goto 4, 3) := by decide +kernel
theorem dX3_has_12 : decode cX3_has 12 = .ok (.iconst 1, 1) := by decide +kernel
theorem dX3_has_13 : decode cX3_has 13 = .ok (.putfield 44, 3) := by decide +kernel
theorem dX3_has_16 : decode cX3_has 16 = .ok (.aload_n 0, 1) := by decide +kernel
theorem dX3_has_17 : decode cX3_has 17 = .ok (.getfield 44, 3) := by decide +kernel
theorem dX3_has_20 : decode cX3_has 20 = .ok (.ifCond .ne 7, 3) := by decide +kernel
theorem dX3_has_23 : decode cX3_has 23 = .ok (.iconst 1, 1) := by decide +kernel
theorem dX3_has_24 : decode cX3_has 24 = .ok (.goto 4, 3) := by decide +kernel
theorem dX3_has_27 : decode cX3_has 27 = .ok (.iconst 0, 1) := by decide +kernel
theorem dX3_has_28 : decode cX3_has 28 = .ok (.ireturn, 1) := by decide +kernel
set_option maxRecDepth 20000 in
theorem ggX3_asks_X3_isOperation : GoodIn wsX3_asks wsX3_isOperation := goodIn_r _ [7, 8, 9, 10, 6, 11, 12, 13, 14, 15, 16, 17, 18, 19, 20, 21, 22, 23, 24, 25, 26, 27] (by decide +kernel) (by decide +kernel)
set_option maxRecDepth 20000 in
theorem gX3_asks_X3_isOperation : GoodIn wsX3_asks (wsV RX3 62 RX3 yX3_isOperation wsX3_isOperation) := goodIn_app (goodIn_of _ (by decide +kernel)) ggX3_asks_X3_isOperation
theorem dX3_asks_0 : decode cX3_asks 0 = .ok (.aload_n 0, 1) := by decide +kernel
theorem dX3_asks_1 : decode cX3_asks 1 = .ok (.aload_n 0, 1) := by decide +kernel
theorem dX3_asks_2 : decode cX3_asks 2 = .ok (.iload_n 1, 1) := by decide +kernel
theorem dX3_asks_3 : decode cX3_asks 3 = .ok (.invokevirtual 62, 3) := by decide +kernel
theorem dX3_asks_6 : decode cX3_asks 6 = .ok (.ifCond .ne 7, 3) := by decide +kernel
theorem dX3_asks_9 : decode cX3_asks 9 = .ok (.iconst 1, 1) := by decide +kernel
theorem dX3_asks_10 : decode cX3_asks 10 = .ok (.goto 15, 3) := by decide +kernel
theorem dX3_asks_13 : decode cX3_asks 13 = .ok (.aload_n 0, 1) := by decide +kernel
theorem dX3_asks_14 : decode cX3_asks 14 = .ok (.getfield 59, 3) := by decide +kernel
theorem dX3_asks_17 : decode cX3_asks 17 = .ok (.ifCond .ne 7, 3) := by decide +kernel
theorem dX3_asks_20 : decode cX3_asks 20 = .ok (.iconst 2, 1) := by decide +kernel
theorem dX3_asks_21 : decode cX3_asks 21 = .ok (.goto 4, 3) := by decide +kernel
theorem dX3_asks_24 : decode cX3_asks 24 = .ok (.iconst 0, 1) := by decide +kernel
theorem dX3_asks_25 : decode cX3_asks 25 = .ok (.putfield 44, 3) := by decide +kernel
theorem dX3_asks_28 : decode cX3_asks 28 = .ok (.aload_n 0, 1) := by decide +kernel
theorem dX3_asks_29 : decode cX3_asks 29 = .ok (.getfield 44, 3) := by decide +kernel
theorem dX3_asks_32 : decode cX3_asks 32 = .ok (.ifCond .ne 7, 3) := by decide +kernel
theorem dX3_asks_35 : decode cX3_asks 35 = .ok (.iconst 1, 1) := by decide +kernel
theorem dX3_asks_36 : decode cX3_asks 36 = .ok (.goto 4, 3) := by decide +kernel
theorem dX3_asks_39 : decode cX3_asks 39 = .ok (.iconst 0, 1) := by decide +kernel
theorem dX3_asks_40 : decode cX3_asks 40 = .ok (.ireturn, 1) := by decide +kernel
set_option maxRecDepth 20000 in
theorem ggX3_interval_X3_has : GoodIn wsX3_interval wsX3_has := goodIn_r _ [6, 1, 7, 8, 9, 10, 11, 12, 13, 14, 15, 16, 17, 18, 19, 20, 21, 22, 23] (by decide +kernel) (by decide +kernel)
set_option maxRecDepth 20000 in
theorem gX3_interval_X3_has : GoodIn wsX3_interval (wsV RX3 114 RX3 yX3_has wsX3_has) := goodIn_app (goodIn_of _ (by decide +kernel)) ggX3_interval_X3_has
theorem dX3_interval_0 : decode cX3_interval 0 = .ok (.aload_n 0, 1) := by decide +kernel
theorem dX3_interval_1 : decode cX3_interval 1 = .ok (.invokevirtual 114, 3) := by decide +kernel
theorem dX3_interval_4 : decode cX3_interval 4 = .ok (.ifCond .eq 10, 3) := by decide +kernel
theorem dX3_interval_7 : decode cX3_interval 7 = .ok (.aload_n 0, 1) := by decide +kernel
theorem dX3_interval_8 : decode cX3_interval 8 = .ok (.getfield 59, 3) := by decide +kernel
theorem dX3_interval_11 : decode cX3_interval 11 = .ok (.goto 4, 3) := by decide +kernel
theorem dX3_interval_14 : decode cX3_interval 14 = .ok (.iconst 0, 1) := by decide +kernel
theorem dX3_interval_15 : decode cX3_interval 15 = .ok (.ireturn, 1) := by decide +kernel
set_option maxRecDepth 20000 in
theorem ggX3_time_X3_asks : GoodIn wsX3_time wsX3_asks := goodIn_r _ [6, 7, 8, 9, 10, 11, 5, 12, 13, 14, 15, 16, 17, 18, 19, 20, 21, 22, 23, 24, 25, 26, 27, 28, 29, 30, 31, 32] (by decide +kernel) (by decide +kernel)
set_option maxRecDepth 20000 in
theorem gX3_time_X3_asks : GoodIn wsX3_time (wsV RX3 118 RX3 yX3_asks wsX3_asks) := goodIn_app (goodIn_of _ (by decide +kernel)) ggX3_time_X3_asks
theorem dX3_time_0 : decode cX3_time 0 = .ok (.aload_n 0, 1) := by decide +kernel
theorem dX3_time_1 : decode cX3_time 1 = .ok (.iload_n 1, 1) := by decide +kernel
theorem dX3_time_2 : decode cX3_time 2 = .ok (.invokevirtual 118, 3) := by decide +kernel
theorem dX3_time_5 : decode cX3_time 5 = .ok (.ifCond .eq 12, 3) := by decide +kernel
theorem dX3_time_8 : decode cX3_time 8 = .ok (.aload_n 0, 1) := by decide +kernel
theorem dX3_time_9 : decode cX3_time 9 = .ok (.getfield 31, 3) := by decide +kernel
theorem dX3_time_12 : decode cX3_time 12 = .ok (.iload_n 1, 1) := by decide +kernel
theorem dX3_time_13 : decode cX3_time 13 = .ok (.iaload, 1) := by decide +kernel
theorem dX3_time_14 : decode cX3_time 14 = .ok (.goto 4, 3) := by decide +kernel
theorem dX3_time_17 : decode cX3_time 17 = .ok (.iconst 0, 1) := by decide +kernel
theorem dX3_time_18 : decode cX3_time 18 = .ok (.ireturn, 1) := by decide +kernel
set_option maxRecDepth 20000 in
theorem ggX3_isValid_X3_lengthOf : GoodIn wsX3_isValid wsX3_lengthOf := goodIn_r _ [12, 13, 14, 27, 28, 29, 30, 31, 32, 33, 34, 35, 36, 37, 38, 39, 40, 41, 42] (by decide +kernel) (by decide +kernel)
set_option maxRecDepth 20000 in
theorem gX3_isValid_X3_lengthOf : GoodIn wsX3_isValid (wsV RX3 76 RX3 yX3_lengthOf wsX3_lengthOf) := goodIn_app (goodIn_of _ (by decide +kernel)) ggX3_isValid_X3_lengthOf
set_option maxRecDepth 20000 in
theorem ggX3_isValid_X3_fits : GoodIn wsX3_isValid wsX3_fits := goodIn_r _ [18, 6, 19, 20, 21, 11, 22, 23, 7, 24, 2, 25, 26, 27, 28, 29, 30, 31, 32, 33, 34, 35, 36, 37, 38, 39, 40, 41, 42] (by decide +kernel) (by decide +kernel)
set_option maxRecDepth 20000 in
theorem gX3_isValid_X3_fits : GoodIn wsX3_isValid (wsV RX3 105 RX3 yX3_fits wsX3_fits) := goodIn_app (goodIn_of _ (by decide +kernel)) ggX3_isValid_X3_fits
theorem dX3_isValid_0 : decode cX3_isValid 0 = .ok (.iconst 0, 1) := by decide +kernel
theorem dX3_isValid_1 : decode cX3_isValid 1 = .ok (.istore_n 1, 1) := by decide +kernel
theorem dX3_isValid_2 : decode cX3_isValid 2 = .ok (.iload_n 1, 1) := by decide +kernel
theorem dX3_isValid_3 : decode cX3_isValid 3 = .ok (.aload_n 0, 1) := by decide +kernel
theorem dX3_isValid_4 : decode cX3_isValid 4 = .ok (.getfield 66, 3) := by decide +kernel
theorem dX3_isValid_7 : decode cX3_isValid 7 = .ok (.if_icmp .ge 46, 3) := by decide +kernel
theorem dX3_isValid_10 : decode cX3_isValid 10 = .ok (.aload_n 0, 1) := by decide +kernel
theorem dX3_isValid_11 : decode cX3_isValid 11 = .ok (.getfield 31, 3) := by decide +kernel
theorem dX3_isValid_14 : decode cX3_isValid 14 = .ok (.aload_n 0, 1) := by decide +kernel
theorem dX3_isValid_15 : decode cX3_isValid 15 = .ok (.getfield 22, 3) := by decide +kernel
theorem dX3_isValid_18 : decode cX3_isValid 18 = .ok (.iload_n 1, 1) := by decide +kernel
theorem dX3_isValid_19 : decode cX3_isValid 19 = .ok (.iaload, 1) := by decide +kernel
theorem dX3_isValid_20 : decode cX3_isValid 20 = .ok (.iaload, 1) := by decide +kernel
theorem dX3_isValid_21 : decode cX3_isValid 21 = .ok (.aload_n 0, 1) := by decide +kernel
theorem dX3_isValid_22 : decode cX3_isValid 22 = .ok (.getfield 31, 3) := by decide +kernel
theorem dX3_isValid_25 : decode cX3_isValid 25 = .ok (.aload_n 0, 1) := by decide +kernel
theorem dX3_isValid_26 : decode cX3_isValid 26 = .ok (.getfield 19, 3) := by decide +kernel
theorem dX3_isValid_29 : decode cX3_isValid 29 = .ok (.iload_n 1, 1) := by decide +kernel
theorem dX3_isValid_30 : decode cX3_isValid 30 = .ok (.iaload, 1) := by decide +kernel
theorem dX3_isValid_31 : decode cX3_isValid 31 = .ok (.iaload, 1) := by decide +kernel
theorem dX3_isValid_32 : decode cX3_isValid 32 = .ok (.aload_n 0, 1) := by decide +kernel
theorem dX3_isValid_33 : decode cX3_isValid 33 = .ok (.iload_n 1, 1) := by decide +kernel
theorem dX3_isValid_34 : decode cX3_isValid 34 = .ok (.aload_n 0, 1) := by decide +kernel
theorem dX3_isValid_35 : decode cX3_isValid 35 = .ok (.getfield 59, 3) := by decide +kernel
theorem dX3_isValid_38 : decode cX3_isValid 38 = .ok (.invokevirtual 76, 3) := by decide +kernel
theorem dX3_isValid_41 : decode cX3_isValid 41 = .ok (.iadd, 1) := by decide +kernel
theorem dX3_isValid_42 : decode cX3_isValid 42 = .ok (.if_icmp .ge 5, 3) := by decide +kernel
theorem dX3_isValid_45 : decode cX3_isValid 45 = .ok (.iconst 0, 1) := by decide +kernel
theorem dX3_isValid_46 : decode cX3_isValid 46 = .ok (.ireturn, 1) := by decide +kernel
theorem dX3_isValid_47 : decode cX3_isValid 47 = .ok (.iinc 1 1, 3) := by decide +kernel
theorem dX3_isValid_50 : decode cX3_isValid 50 = .ok (.goto (-48), 3) := by decide +kernel
theorem dX3_isValid_53 : decode cX3_isValid 53 = .ok (.iconst 0, 1) := by decide +kernel
theorem dX3_isValid_54 : decode cX3_isValid 54 = .ok (.istore_n 1, 1) := by decide +kernel
theorem dX3_isValid_55 : decode cX3_isValid 55 = .ok (.iload_n 1, 1) := by decide +kernel
theorem dX3_isValid_56 : decode cX3_isValid 56 = .ok (.aload_n 0, 1) := by decide +kernel
theorem dX3_isValid_57 : decode cX3_isValid 57 = .ok (.getfield 48, 3) := by decide +kernel
theorem dX3_isValid_60 : decode cX3_isValid 60 = .ok (.if_icmp .ge 16, 3) := by decide +kernel
theorem dX3_isValid_63 : decode cX3_isValid 63 = .ok (.aload_n 0, 1) := by decide +kernel
theorem dX3_isValid_64 : decode cX3_isValid 64 = .ok (.getfield 37, 3) := by decide +kernel
theorem dX3_isValid_67 : decode cX3_isValid 67 = .ok (.iload_n 1, 1) := by decide +kernel
theorem dX3_isValid_68 : decode cX3_isValid 68 = .ok (.iconst 1, 1) := by decide +kernel
theorem dX3_isValid_69 : decode cX3_isValid 69 = .ok (.bastore, 1) := by decide +kernel
theorem dX3_isValid_70 : decode cX3_isValid 70 = .ok (.iinc 1 1, 3) := by decide +kernel
theorem dX3_isValid_73 : decode cX3_isValid 73 = .ok (.goto (-18), 3) := by decide +kernel
theorem dX3_isValid_76 : decode cX3_isValid 76 = .ok (.aload_n 0, 1) := by decide +kernel
theorem dX3_isValid_77 : decode cX3_isValid 77 = .ok (.aload_n 0, 1) := by decide +kernel
theorem dX3_isValid_78 : decode cX3_isValid 78 = .ok (.getfield 59, 3) := by decide +kernel
theorem dX3_isValid_81 : decode cX3_isValid 81 = .ok (.invokevirtual 105, 3) := by decide +kernel
theorem dX3_isValid_84 : decode cX3_isValid 84 = .ok (.ireturn, 1) := by decide +kernel
set_option maxRecDepth 20000 in
theorem ggX3_isValidWith_X3_isValid : GoodIn wsX3_isValidWith wsX3_isValid := goodIn_r _ [6, 7, 1, 8, 9, 10, 11, 12, 13, 14, 15, 5, 16, 17, 18, 19, 20, 21, 22, 23, 24, 25, 26, 27, 28, 29, 30, 31, 32, 33, 34, 35, 36, 37, 38, 39, 40, 41, 42, 43, 44, 45, 46] (by decide +kernel) (by decide +kernel)
set_option maxRecDepth 20000 in
theorem gX3_isValidWith_X3_isValid : GoodIn wsX3_isValidWith (wsV RX3 121 RX3 yX3_isValid wsX3_isValid) := goodIn_app (goodIn_of _ (by decide +kernel)) ggX3_isValidWith_X3_isValid
theorem dX3_isValidWith_0 : decode cX3_isValidWith 0 = .ok (.aload_n 0, 1) := by decide +kernel
theorem dX3_isValidWith_1 : decode cX3_isValidWith 1 = .ok (.getfield 31, 3) := by decide +kernel
theorem dX3_isValidWith_4 : decode cX3_isValidWith 4 = .ok (.iload_n 1, 1) := by decide +kernel
theorem dX3_isValidWith_5 : decode cX3_isValidWith 5 = .ok (.iaload, 1) := by decide +kernel
theorem dX3_isValidWith_6 : decode cX3_isValidWith 6 = .ok (.istore_n 3, 1) := by decide +kernel
theorem dX3_isValidWith_7 : decode cX3_isValidWith 7 = .ok (.aload_n 0, 1) := by decide +kernel
theorem dX3_isValidWith_8 : decode cX3_isValidWith 8 = .ok (.getfield 31, 3) := by decide +kernel
theorem dX3_isValidWith_11 : decode cX3_isValidWith 11 = .ok (.iload_n 1, 1) := by decide +kernel
theorem dX3_isValidWith_12 : decode cX3_isValidWith 12 = .ok (.iload_n 2, 1) := by decide +kernel
theorem dX3_isValidWith_13 : decode cX3_isValidWith 13 = .ok (.iastore, 1) := by decide +kernel
theorem dX3_isValidWith_14 : decode cX3_isValidWith 14 = .ok (.aload_n 0, 1) := by decide +kernel
theorem dX3_isValidWith_15 : decode cX3_isValidWith 15 = .ok (.invokevirtual 121, 3) := by decide +kernel
theorem dX3_isValidWith_18 : decode cX3_isValidWith 18 = .ok (.istore 4, 2) := by decide +kernel
theorem dX3_isValidWith_20 : decode cX3_isValidWith 20 = .ok (.aload_n 0, 1) := by decide +kernel
theorem dX3_isValidWith_21 : decode cX3_isValidWith 21 = .ok (.getfield 31, 3) := by decide +kernel
theorem dX3_isValidWith_24 : decode cX3_isValidWith 24 = .ok (.iload_n 1, 1) := by decide +kernel
theorem dX3_isValidWith_25 : decode cX3_isValidWith 25 = .ok (.iload_n 3, 1) := by decide +kernel
theorem dX3_isValidWith_26 : decode cX3_isValidWith 26 = .ok (.iastore, 1) := by decide +kernel
theorem dX3_isValidWith_27 : decode cX3_isValidWith 27 = .ok (.iload 4, 2) := by decide +kernel
theorem dX3_isValidWith_29 : decode cX3_isValidWith 29 = .ok (.ireturn, 1) := by decide +kernel
set_option maxRecDepth 20000 in
theorem ggX3_move_X3_isOperation : GoodIn wsX3_move wsX3_isOperation := goodIn_r _ [8, 9, 10, 11, 7, 12, 43, 44, 45, 46, 47, 48, 49, 50, 51, 52, 53, 54, 55, 56, 57, 58] (by decide +kernel) (by decide +kernel)
set_option maxRecDepth 20000 in
theorem gX3_move_X3_isOperation : GoodIn wsX3_move (wsV RX3 62 RX3 yX3_isOperation wsX3_isOperation) := goodIn_app (goodIn_of _ (by decide +kernel)) ggX3_move_X3_isOperation
set_option maxRecDepth 20000 in
theorem ggX3_move_X3_isIn : GoodIn wsX3_move wsX3_isIn := goodIn_r _ [12] (by decide +kernel) (by decide +kernel)
set_option maxRecDepth 20000 in
theorem gX3_move_X3_isIn : GoodIn wsX3_move (va_wsS RX3 51 yX3_isIn wsX3_isIn) := goodIn_app (goodIn_of _ (by decide +kernel)) ggX3_move_X3_isIn
set_option maxRecDepth 20000 in
theorem ggX3_move_X3_isValidWith : GoodIn wsX3_move wsX3_isValidWith := goodIn_r _ [16, 3, 17, 18, 19, 7, 20, 21, 22, 23, 1, 9, 24, 25, 26, 27, 28, 29, 30, 31, 32, 33, 34, 35, 36, 37, 38, 39, 40, 41, 42, 43, 44, 45, 46, 47, 48, 49, 50, 51, 52, 53, 54, 55, 56, 57, 58] (by decide +kernel) (by decide +kernel)
set_option maxRecDepth 20000 in
theorem gX3_move_X3_isValidWith : GoodIn wsX3_move (wsV RX3 124 RX3 yX3_isValidWith wsX3_isValidWith) := goodIn_app (goodIn_of _ (by decide +kernel)) ggX3_move_X3_isValidWith
theorem dX3_move_0 : decode cX3_move 0 = .ok (.aload_n 0, 1) := by decide +kernel
theorem dX3_move_1 : decode cX3_move 1 = .ok (.aload_n 0, 1) := by decide +kernel
theorem dX3_move_2 : decode cX3_move 2 = .ok (.iload_n 1, 1) := by decide +kernel
theorem dX3_move_3 : decode cX3_move 3 = .ok (.invokevirtual 62, 3) := by decide +kernel
theorem dX3_move_6 : decode cX3_move 6 = .ok (.ifCond .ne 7, 3) := by decide +kernel
theorem dX3_move_9 : decode cX3_move 9 = .ok (.iconst 1, 1) := by decide +kernel
theorem dX3_move_10 : decode cX3_move 10 = .ok (.goto 30, 3) := by decide +kernel
theorem dX3_move_13 : decode cX3_move 13 = .ok (.iload_n 2, 1) := by decide +kernel
theorem dX3_move_14 : decode cX3_move 14 = .ok (.iconst 0, 1) := by decide +kernel
theorem dX3_move_15 : decode cX3_move 15 = .ok (.sipush 1000, 3) := by decide +kernel
theorem dX3_move_18 : decode cX3_move 18 = .ok (.invokestatic 51, 3) := by decide +kernel
theorem dX3_move_21 : decode cX3_move 21 = .ok (.ifCond .ne 7, 3) := by decide +kernel
theorem dX3_move_24 : decode cX3_move 24 = .ok (.iconst 2, 1) := by decide +kernel
theorem dX3_move_25 : decode cX3_move 25 = .ok (.goto 15, 3) := by decide +kernel
theorem dX3_move_28 : decode cX3_move 28 = .ok (.aload_n 0, 1) := by decide +kernel
theorem dX3_move_29 : decode cX3_move 29 = .ok (.getfield 59, 3) := by decide +kernel
theorem dX3_move_32 : decode cX3_move 32 = .ok (.ifCond .ne 7, 3) := by decide +kernel
theorem dX3_move_35 : decode cX3_move 35 = .ok (.iconst 3, 1) := by decide +kernel
theorem dX3_move_36 : decode cX3_move 36 = .ok (.goto 4, 3) := by decide +kernel
theorem dX3_move_39 : decode cX3_move 39 = .ok (.iconst 0, 1) := by decide +kernel
theorem dX3_move_40 : decode cX3_move 40 = .ok (.putfield 44, 3) := by decide +kernel
theorem dX3_move_43 : decode cX3_move 43 = .ok (.aload_n 0, 1) := by decide +kernel
theorem dX3_move_44 : decode cX3_move 44 = .ok (.getfield 44, 3) := by decide +kernel
theorem dX3_move_47 : decode cX3_move 47 = .ok (.ifCond .le 5, 3) := by decide +kernel
theorem dX3_move_50 : decode cX3_move 50 = .ok (.iconst 0, 1) := by decide +kernel
theorem dX3_move_51 : decode cX3_move 51 = .ok (.ireturn, 1) := by decide +kernel
theorem dX3_move_52 : decode cX3_move 52 = .ok (.aload_n 0, 1) := by decide +kernel
theorem dX3_move_53 : decode cX3_move 53 = .ok (.iload_n 1, 1) := by decide +kernel
theorem dX3_move_54 : decode cX3_move 54 = .ok (.iload_n 2, 1) := by decide +kernel
theorem dX3_move_55 : decode cX3_move 55 = .ok (.invokevirtual 124, 3) := by decide +kernel
theorem dX3_move_58 : decode cX3_move 58 = .ok (.istore_n 3, 1) := by decide +kernel
theorem dX3_move_59 : decode cX3_move 59 = .ok (.iload_n 3, 1) := by decide +kernel
theorem dX3_move_60 : decode cX3_move 60 = .ok (.ifCond .eq 10, 3) := by decide +kernel
theorem dX3_move_63 : decode cX3_move 63 = .ok (.aload_n 0, 1) := by decide +kernel
theorem dX3_move_64 : decode cX3_move 64 = .ok (.getfield 31, 3) := by decide +kernel
theorem dX3_move_67 : decode cX3_move 67 = .ok (.iload_n 1, 1) := by decide +kernel
theorem dX3_move_68 : decode cX3_move 68 = .ok (.iload_n 2, 1) := by decide +kernel
theorem dX3_move_69 : decode cX3_move 69 = .ok (.iastore, 1) := by decide +kernel
theorem dX3_move_70 : decode cX3_move 70 = .ok (.iload_n 3, 1) := by decide +kernel
theorem dX3_move_71 : decode cX3_move 71 = .ok (.ireturn, 1) := by decide +kernel
set_option maxRecDepth 20000 in
theorem ggX3_freedom_X3_asks : GoodIn wsX3_freedom wsX3_asks := goodIn_r _ [5, 6, 7, 8, 9, 10, 4, 11, 12, 13, 14, 15, 47, 48, 49, 50, 51, 52, 53, 54, 55, 56, 57, 58, 59, 60, 61, 62] (by decide +kernel) (by decide +kernel)
set_option maxRecDepth 20000 in
theorem gX3_freedom_X3_asks : GoodIn wsX3_freedom (wsV RX3 118 RX3 yX3_asks wsX3_asks) := goodIn_app (goodIn_of _ (by decide +kernel)) ggX3_freedom_X3_asks
set_option maxRecDepth 20000 in
theorem ggX3_freedom_X3_isValidWith : GoodIn wsX3_freedom wsX3_isValidWith := goodIn_r _ [19, 20, 21, 22, 23, 4, 24, 25, 26, 27, 6, 12, 28, 29, 30, 31, 32, 33, 34, 35, 36, 37, 38, 39, 40, 41, 42, 43, 44, 45, 46, 47, 48, 49, 50, 51, 52, 53, 54, 55, 56, 57, 58, 59, 60, 61, 62] (by decide +kernel) (by decide +kernel)
set_option maxRecDepth 20000 in
theorem gX3_freedom_X3_isValidWith : GoodIn wsX3_freedom (wsV RX3 124 RX3 yX3_isValidWith wsX3_isValidWith) := goodIn_app (goodIn_of _ (by decide +kernel)) ggX3_freedom_X3_isValidWith
theorem dX3_freedom_0 : decode cX3_freedom 0 = .ok (.aload_n 0, 1) := by decide +kernel
theorem dX3_freedom_1 : decode cX3_freedom 1 = .ok (.iload_n 1, 1) := by decide +kernel
theorem dX3_freedom_2 : decode cX3_freedom 2 = .ok (.invokevirtual 118, 3) := by decide +kernel
theorem dX3_freedom_5 : decode cX3_freedom 5 = .ok (.ifCond .ne 5, 3) := by decide +kernel
theorem dX3_freedom_8 : decode cX3_freedom 8 = .ok (.iconst 0, 1) := by decide +kernel
theorem dX3_freedom_9 : decode cX3_freedom 9 = .ok (.ireturn, 1) := by decide +kernel
theorem dX3_freedom_10 : decode cX3_freedom 10 = .ok (.iconst 0, 1) := by decide +kernel
theorem dX3_freedom_11 : decode cX3_freedom 11 = .ok (.istore_n 2, 1) := by decide +kernel
theorem dX3_freedom_12 : decode cX3_freedom 12 = .ok (.iconst 0, 1) := by decide +kernel
theorem dX3_freedom_13 : decode cX3_freedom 13 = .ok (.istore_n 3, 1) := by decide +kernel
theorem dX3_freedom_14 : decode cX3_freedom 14 = .ok (.iload_n 3, 1) := by decide +kernel
theorem dX3_freedom_15 : decode cX3_freedom 15 = .ok (.sipush 1000, 3) := by decide +kernel
theorem dX3_freedom_18 : decode cX3_freedom 18 = .ok (.if_icmp .gt 26, 3) := by decide +kernel
theorem dX3_freedom_21 : decode cX3_freedom 21 = .ok (.iload_n 2, 1) := by decide +kernel
theorem dX3_freedom_22 : decode cX3_freedom 22 = .ok (.aload_n 0, 1) := by decide +kernel
theorem dX3_freedom_23 : decode cX3_freedom 23 = .ok (.iload_n 1, 1) := by decide +kernel
theorem dX3_freedom_24 : decode cX3_freedom 24 = .ok (.iload_n 3, 1) := by decide +kernel
theorem dX3_freedom_25 : decode cX3_freedom 25 = .ok (.invokevirtual 124, 3) := by decide +kernel
theorem dX3_freedom_28 : decode cX3_freedom 28 = .ok (.ifCond .eq 7, 3) := by decide +kernel
theorem dX3_freedom_31 : decode cX3_freedom 31 = .ok (.iconst 1, 1) := by decide +kernel
theorem dX3_freedom_32 : decode cX3_freedom 32 = .ok (.goto 4, 3) := by decide +kernel
theorem dX3_freedom_35 : decode cX3_freedom 35 = .ok (.iconst 0, 1) := by decide +kernel
theorem dX3_freedom_36 : decode cX3_freedom 36 = .ok (.iadd, 1) := by decide +kernel
theorem dX3_freedom_37 : decode cX3_freedom 37 = .ok (.istore_n 2, 1) := by decide +kernel
theorem dX3_freedom_38 : decode cX3_freedom 38 = .ok (.iinc 3 1, 3) := by decide +kernel
theorem dX3_freedom_41 : decode cX3_freedom 41 = .ok (.goto (-27), 3) := by decide +kernel
theorem dX3_freedom_44 : decode cX3_freedom 44 = .ok (.iload_n 2, 1) := by decide +kernel
theorem dX3_freedom_45 : decode cX3_freedom 45 = .ok (.ireturn, 1) := by decide +kernel
theorem dX3_latest_0 : decode cX3_latest 0 = .ok (.iconst 0, 1) := by decide +kernel
theorem dX3_latest_1 : decode cX3_latest 1 = .ok (.istore_n 1, 1) := by decide +kernel
theorem dX3_latest_2 : decode cX3_latest 2 = .ok (.iconst 0, 1) := by decide +kernel
theorem dX3_latest_3 : decode cX3_latest 3 = .ok (.istore_n 2, 1) := by decide +kernel
theorem dX3_latest_4 : decode cX3_latest 4 = .ok (.iload_n 2, 1) := by decide +kernel
theorem dX3_latest_5 : decode cX3_latest 5 = .ok (.aload_n 0, 1) := by decide +kernel
theorem dX3_latest_6 : decode cX3_latest 6 = .ok (.getfield 48, 3) := by decide +kernel
theorem dX3_latest_9 : decode cX3_latest 9 = .ok (.if_icmp .ge 20, 3) := by decide +kernel
theorem dX3_latest_12 : decode cX3_latest 12 = .ok (.iload_n 1, 1) := by decide +kernel
theorem dX3_latest_13 : decode cX3_latest 13 = .ok (.aload_n 0, 1) := by decide +kernel
theorem dX3_latest_14 : decode cX3_latest 14 = .ok (.getfield 31, 3) := by decide +kernel
theorem dX3_latest_17 : decode cX3_latest 17 = .ok (.iload_n 2, 1) := by decide +kernel
theorem dX3_latest_18 : decode cX3_latest 18 = .ok (.iaload, 1) := by decide +kernel
theorem dX3_latest_19 : decode cX3_latest 19 = .ok (.invokestatic 97, 3) := by decide +kernel
theorem dX3_latest_22 : decode cX3_latest 22 = .ok (.istore_n 1, 1) := by decide +kernel
theorem dX3_latest_23 : decode cX3_latest 23 = .ok (.iinc 2 1, 3) := by decide +kernel
theorem dX3_latest_26 : decode cX3_latest 26 = .ok (.goto (-22), 3) := by decide +kernel
theorem dX3_latest_29 : decode cX3_latest 29 = .ok (.iload_n 1, 1) := by decide +kernel
theorem dX3_latest_30 : decode cX3_latest 30 = .ok (.ireturn, 1) := by decide +kernel
set_option maxRecDepth 20000 in
theorem ggX3_stageCount_X3_latest : GoodIn wsX3_stageCount wsX3_latest := goodIn_r _ [7, 1, 8, 9, 10, 11, 12, 13, 14, 15, 16, 17, 18, 19, 20, 21, 22, 23, 24, 25, 26, 27, 28] (by decide +kernel) (by decide +kernel)
set_option maxRecDepth 20000 in
theorem gX3_stageCount_X3_latest : GoodIn wsX3_stageCount (wsV RX3 127 RX3 yX3_latest wsX3_latest) := goodIn_app (goodIn_of _ (by decide +kernel)) ggX3_stageCount_X3_latest
theorem dX3_stageCount_0 : decode cX3_stageCount 0 = .ok (.aload_n 0, 1) := by decide +kernel
theorem dX3_stageCount_1 : decode cX3_stageCount 1 = .ok (.getfield 48, 3) := by decide +kernel
theorem dX3_stageCount_4 : decode cX3_stageCount 4 = .ok (.ifCond .ne 7, 3) := by decide +kernel
theorem dX3_stageCount_7 : decode cX3_stageCount 7 = .ok (.iconst 0, 1) := by decide +kernel
theorem dX3_stageCount_8 : decode cX3_stageCount 8 = .ok (.goto 14, 3) := by decide +kernel
theorem dX3_stageCount_11 : decode cX3_stageCount 11 = .ok (.aload_n 0, 1) := by decide +kernel
theorem dX3_stageCount_12 : decode cX3_stageCount 12 = .ok (.invokevirtual 127, 3) := by decide +kernel
theorem dX3_stageCount_15 : decode cX3_stageCount 15 = .ok (.aload_n 0, 1) := by decide +kernel
theorem dX3_stageCount_16 : decode cX3_stageCount 16 = .ok (.getfield 59, 3) := by decide +kernel
theorem dX3_stageCount_19 : decode cX3_stageCount 19 = .ok (.idiv, 1) := by decide +kernel
theorem dX3_stageCount_20 : decode cX3_stageCount 20 = .ok (.iconst 1, 1) := by decide +kernel
theorem dX3_stageCount_21 : decode cX3_stageCount 21 = .ok (.iadd, 1) := by decide +kernel
theorem dX3_stageCount_22 : decode cX3_stageCount 22 = .ok (.ireturn, 1) := by decide +kernel
set_option maxRecDepth 20000 in
theorem ggX3_stages_X3_has : GoodIn wsX3_stages wsX3_has := goodIn_r _ [5, 6, 7, 22, 23, 24, 25, 26, 27, 28, 29, 30, 31, 32, 33, 34, 35, 36, 37] (by decide +kernel) (by decide +kernel)
set_option maxRecDepth 20000 in
theorem gX3_stages_X3_has : GoodIn wsX3_stages (wsV RX3 114 RX3 yX3_has wsX3_has) := goodIn_app (goodIn_of _ (by decide +kernel)) ggX3_stages_X3_has
set_option maxRecDepth 20000 in
theorem ggX3_stages_X3_stageCount : GoodIn wsX3_stages wsX3_stageCount := goodIn_r _ [11, 12, 6, 13, 14, 15, 4, 16, 17, 18, 19, 20, 21, 22, 23, 24, 25, 26, 27, 28, 29, 30, 31, 32, 33, 34, 35, 36, 37] (by decide +kernel) (by decide +kernel)
set_option maxRecDepth 20000 in
theorem gX3_stages_X3_stageCount : GoodIn wsX3_stages (wsV RX3 130 RX3 yX3_stageCount wsX3_stageCount) := goodIn_app (goodIn_of _ (by decide +kernel)) ggX3_stages_X3_stageCount
theorem dX3_stages_0 : decode cX3_stages 0 = .ok (.aload_n 0, 1) := by decide +kernel
theorem dX3_stages_1 : decode cX3_stages 1 = .ok (.invokevirtual 114, 3) := by decide +kernel
theorem dX3_stages_4 : decode cX3_stages 4 = .ok (.ifCond .eq 10, 3) := by decide +kernel
theorem dX3_stages_7 : decode cX3_stages 7 = .ok (.aload_n 0, 1) := by decide +kernel
theorem dX3_stages_8 : decode cX3_stages 8 = .ok (.invokevirtual 130, 3) := by decide +kernel
theorem dX3_stages_11 : decode cX3_stages 11 = .ok (.goto 4, 3) := by decide +kernel
theorem dX3_stages_14 : decode cX3_stages 14 = .ok (.iconst 0, 1) := by decide +kernel
theorem dX3_stages_15 : decode cX3_stages 15 = .ok (.ireturn, 1) := by decide +kernel
set_option maxRecDepth 20000 in
theorem ggX3_taken_X3_isIn : GoodIn wsX3_taken wsX3_isIn := goodIn_r _ [8] (by decide +kernel) (by decide +kernel)
set_option maxRecDepth 20000 in
theorem gX3_taken_X3_isIn : GoodIn wsX3_taken (va_wsS RX3 51 yX3_isIn wsX3_isIn) := goodIn_app (goodIn_of _ (by decide +kernel)) ggX3_taken_X3_isIn
set_option maxRecDepth 20000 in
theorem ggX3_taken_X3_takenIn : GoodIn wsX3_taken wsX3_takenIn := goodIn_r _ [12, 3, 13, 4, 14, 15, 16, 17, 18, 19, 20, 21, 22, 23, 24, 25, 26, 27, 28, 29, 30, 31] (by decide +kernel) (by decide +kernel)
set_option maxRecDepth 20000 in
theorem gX3_taken_X3_takenIn : GoodIn wsX3_taken (wsV RX3 133 RX3 yX3_takenIn wsX3_takenIn) := goodIn_app (goodIn_of _ (by decide +kernel)) ggX3_taken_X3_takenIn
theorem dX3_taken_0 : decode cX3_taken 0 = .ok (.aload_n 0, 1) := by decide +kernel
theorem dX3_taken_1 : decode cX3_taken 1 = .ok (.iload_n 2, 1) := by decide +kernel
theorem dX3_taken_2 : decode cX3_taken 2 = .ok (.iconst 0, 1) := by decide +kernel
theorem dX3_taken_3 : decode cX3_taken 3 = .ok (.iconst 2, 1) := by decide +kernel
theorem dX3_taken_4 : decode cX3_taken 4 = .ok (.invokestatic 51, 3) := by decide +kernel
theorem dX3_taken_7 : decode cX3_taken 7 = .ok (.ifCond .ne 7, 3) := by decide +kernel
theorem dX3_taken_10 : decode cX3_taken 10 = .ok (.iconst 1, 1) := by decide +kernel
theorem dX3_taken_11 : decode cX3_taken 11 = .ok (.goto 33, 3) := by decide +kernel
theorem dX3_taken_14 : decode cX3_taken 14 = .ok (.aload_n 0, 1) := by decide +kernel
theorem dX3_taken_15 : decode cX3_taken 15 = .ok (.getfield 59, 3) := by decide +kernel
theorem dX3_taken_18 : decode cX3_taken 18 = .ok (.ifCond .ne 7, 3) := by decide +kernel
theorem dX3_taken_21 : decode cX3_taken 21 = .ok (.iconst 2, 1) := by decide +kernel
theorem dX3_taken_22 : decode cX3_taken 22 = .ok (.goto 22, 3) := by decide +kernel
theorem dX3_taken_25 : decode cX3_taken 25 = .ok (.iload_n 1, 1) := by decide +kernel
theorem dX3_taken_26 : decode cX3_taken 26 = .ok (.iconst 0, 1) := by decide +kernel
theorem dX3_taken_27 : decode cX3_taken 27 = .ok (.aload_n 0, 1) := by decide +kernel
theorem dX3_taken_28 : decode cX3_taken 28 = .ok (.getfield 59, 3) := by decide +kernel
theorem dX3_taken_31 : decode cX3_taken 31 = .ok (.iconst 1, 1) := by decide +kernel
theorem dX3_taken_32 : decode cX3_taken 32 = .ok (.isub, 1) := by decide +kernel
theorem dX3_taken_33 : decode cX3_taken 33 = .ok (.invokestatic 51, 3) := by decide +kernel
theorem dX3_taken_36 : decode cX3_taken 36 = .ok (.ifCond .ne 7, 3) := by decide +kernel
theorem dX3_taken_39 : decode cX3_taken 39 = .ok (.iconst 3, 1) := by decide +kernel
theorem dX3_taken_40 : decode cX3_taken 40 = .ok (.goto 4, 3) := by decide +kernel
theorem dX3_taken_43 : decode cX3_taken 43 = .ok (.iconst 0, 1) := by decide +kernel
theorem dX3_taken_44 : decode cX3_taken 44 = .ok (.putfield 44, 3) := by decide +kernel
theorem dX3_taken_47 : decode cX3_taken 47 = .ok (.aload_n 0, 1) := by decide +kernel
theorem dX3_taken_48 : decode cX3_taken 48 = .ok (.getfield 44, 3) := by decide +kernel
theorem dX3_taken_51 : decode cX3_taken 51 = .ok (.ifCond .le 5, 3) := by decide +kernel
theorem dX3_taken_54 : decode cX3_taken 54 = .ok (.iconst 0, 1) := by decide +kernel
theorem dX3_taken_55 : decode cX3_taken 55 = .ok (.ireturn, 1) := by decide +kernel
theorem dX3_taken_56 : decode cX3_taken 56 = .ok (.iconst 0, 1) := by decide +kernel
theorem dX3_taken_57 : decode cX3_taken 57 = .ok (.istore_n 3, 1) := by decide +kernel
theorem dX3_taken_58 : decode cX3_taken 58 = .ok (.iload_n 3, 1) := by decide +kernel
theorem dX3_taken_59 : decode cX3_taken 59 = .ok (.aload_n 0, 1) := by decide +kernel
theorem dX3_taken_60 : decode cX3_taken 60 = .ok (.getfield 48, 3) := by decide +kernel
theorem dX3_taken_63 : decode cX3_taken 63 = .ok (.if_icmp .ge 16, 3) := by decide +kernel
theorem dX3_taken_66 : decode cX3_taken 66 = .ok (.aload_n 0, 1) := by decide +kernel
theorem dX3_taken_67 : decode cX3_taken 67 = .ok (.getfield 37, 3) := by decide +kernel
theorem dX3_taken_70 : decode cX3_taken 70 = .ok (.iload_n 3, 1) := by decide +kernel
theorem dX3_taken_71 : decode cX3_taken 71 = .ok (.iconst 1, 1) := by decide +kernel
theorem dX3_taken_72 : decode cX3_taken 72 = .ok (.bastore, 1) := by decide +kernel
theorem dX3_taken_73 : decode cX3_taken 73 = .ok (.iinc 3 1, 3) := by decide +kernel
theorem dX3_taken_76 : decode cX3_taken 76 = .ok (.goto (-18), 3) := by decide +kernel
theorem dX3_taken_79 : decode cX3_taken 79 = .ok (.aload_n 0, 1) := by decide +kernel
theorem dX3_taken_80 : decode cX3_taken 80 = .ok (.iload_n 1, 1) := by decide +kernel
theorem dX3_taken_81 : decode cX3_taken 81 = .ok (.iload_n 2, 1) := by decide +kernel
theorem dX3_taken_82 : decode cX3_taken 82 = .ok (.aload_n 0, 1) := by decide +kernel
theorem dX3_taken_83 : decode cX3_taken 83 = .ok (.getfield 59, 3) := by decide +kernel
theorem dX3_taken_86 : decode cX3_taken 86 = .ok (.invokevirtual 133, 3) := by decide +kernel
theorem dX3_taken_89 : decode cX3_taken 89 = .ok (.ireturn, 1) := by decide +kernel
theorem dX3_lifeOf_0 : decode cX3_lifeOf 0 = .ok (.aload_n 0, 1) := by decide +kernel
theorem dX3_lifeOf_1 : decode cX3_lifeOf 1 = .ok (.getfield 31, 3) := by decide +kernel
theorem dX3_lifeOf_4 : decode cX3_lifeOf 4 = .ok (.iload_n 1, 1) := by decide +kernel
theorem dX3_lifeOf_5 : decode cX3_lifeOf 5 = .ok (.iaload, 1) := by decide +kernel
theorem dX3_lifeOf_6 : decode cX3_lifeOf 6 = .ok (.istore_n 2, 1) := by decide +kernel
theorem dX3_lifeOf_7 : decode cX3_lifeOf 7 = .ok (.iconst 0, 1) := by decide +kernel
theorem dX3_lifeOf_8 : decode cX3_lifeOf 8 = .ok (.istore_n 3, 1) := by decide +kernel
theorem dX3_lifeOf_9 : decode cX3_lifeOf 9 = .ok (.iload_n 3, 1) := by decide +kernel
theorem dX3_lifeOf_10 : decode cX3_lifeOf 10 = .ok (.aload_n 0, 1) := by decide +kernel
theorem dX3_lifeOf_11 : decode cX3_lifeOf 11 = .ok (.getfield 66, 3) := by decide +kernel
theorem dX3_lifeOf_14 : decode cX3_lifeOf 14 = .ok (.if_icmp .ge 47, 3) := by decide +kernel
theorem dX3_lifeOf_17 : decode cX3_lifeOf 17 = .ok (.aload_n 0, 1) := by decide +kernel
theorem dX3_lifeOf_18 : decode cX3_lifeOf 18 = .ok (.getfield 19, 3) := by decide +kernel
theorem dX3_lifeOf_21 : decode cX3_lifeOf 21 = .ok (.iload_n 3, 1) := by decide +kernel
theorem dX3_lifeOf_22 : decode cX3_lifeOf 22 = .ok (.iaload, 1) := by decide +kernel
theorem dX3_lifeOf_23 : decode cX3_lifeOf 23 = .ok (.iload_n 1, 1) := by decide +kernel
theorem dX3_lifeOf_24 : decode cX3_lifeOf 24 = .ok (.if_icmp .ne 31, 3) := by decide +kernel
theorem dX3_lifeOf_27 : decode cX3_lifeOf 27 = .ok (.iload_n 2, 1) := by decide +kernel
theorem dX3_lifeOf_28 : decode cX3_lifeOf 28 = .ok (.aload_n 0, 1) := by decide +kernel
theorem dX3_lifeOf_29 : decode cX3_lifeOf 29 = .ok (.getfield 31, 3) := by decide +kernel
theorem dX3_lifeOf_32 : decode cX3_lifeOf 32 = .ok (.aload_n 0, 1) := by decide +kernel
theorem dX3_lifeOf_33 : decode cX3_lifeOf 33 = .ok (.getfield 22, 3) := by decide +kernel
theorem dX3_lifeOf_36 : decode cX3_lifeOf 36 = .ok (.iload_n 3, 1) := by decide +kernel
theorem dX3_lifeOf_37 : decode cX3_lifeOf 37 = .ok (.iaload, 1) := by decide +kernel
theorem dX3_lifeOf_38 : decode cX3_lifeOf 38 = .ok (.iaload, 1) := by decide +kernel
theorem dX3_lifeOf_39 : decode cX3_lifeOf 39 = .ok (.aload_n 0, 1) := by decide +kernel
theorem dX3_lifeOf_40 : decode cX3_lifeOf 40 = .ok (.getfield 59, 3) := by decide +kernel
theorem dX3_lifeOf_43 : decode cX3_lifeOf 43 = .ok (.aload_n 0, 1) := by decide +kernel
theorem dX3_lifeOf_44 : decode cX3_lifeOf 44 = .ok (.getfield 28, 3) := by decide +kernel
theorem dX3_lifeOf_47 : decode cX3_lifeOf 47 = .ok (.iload_n 3, 1) := by decide +kernel
theorem dX3_lifeOf_48 : decode cX3_lifeOf 48 = .ok (.iaload, 1) := by decide +kernel
theorem dX3_lifeOf_49 : decode cX3_lifeOf 49 = .ok (.imul, 1) := by decide +kernel
theorem dX3_lifeOf_50 : decode cX3_lifeOf 50 = .ok (.iadd, 1) := by decide +kernel
theorem dX3_lifeOf_51 : decode cX3_lifeOf 51 = .ok (.invokestatic 97, 3) := by decide +kernel
theorem dX3_lifeOf_54 : decode cX3_lifeOf 54 = .ok (.istore_n 2, 1) := by decide +kernel
theorem dX3_lifeOf_55 : decode cX3_lifeOf 55 = .ok (.iinc 3 1, 3) := by decide +kernel
theorem dX3_lifeOf_58 : decode cX3_lifeOf 58 = .ok (.goto (-49), 3) := by decide +kernel
theorem dX3_lifeOf_61 : decode cX3_lifeOf 61 = .ok (.iload_n 2, 1) := by decide +kernel
theorem dX3_lifeOf_62 : decode cX3_lifeOf 62 = .ok (.aload_n 0, 1) := by decide +kernel
theorem dX3_lifeOf_63 : decode cX3_lifeOf 63 = .ok (.getfield 31, 3) := by decide +kernel
theorem dX3_lifeOf_66 : decode cX3_lifeOf 66 = .ok (.iload_n 1, 1) := by decide +kernel
theorem dX3_lifeOf_67 : decode cX3_lifeOf 67 = .ok (.iaload, 1) := by decide +kernel
theorem dX3_lifeOf_68 : decode cX3_lifeOf 68 = .ok (.isub, 1) := by decide +kernel
theorem dX3_lifeOf_69 : decode cX3_lifeOf 69 = .ok (.ireturn, 1) := by decide +kernel
set_option maxRecDepth 20000 in
theorem ggX3_lifetime_X3_asks : GoodIn wsX3_lifetime wsX3_asks := goodIn_r _ [5, 6, 7, 8, 9, 10, 4, 11, 12, 13, 14, 15, 29, 30, 31, 32, 33, 34, 35, 36, 37, 38, 39, 40, 41, 42, 43, 44] (by decide +kernel) (by decide +kernel)
set_option maxRecDepth 20000 in
theorem gX3_lifetime_X3_asks : GoodIn wsX3_lifetime (wsV RX3 118 RX3 yX3_asks wsX3_asks) := goodIn_app (goodIn_of _ (by decide +kernel)) ggX3_lifetime_X3_asks
set_option maxRecDepth 20000 in
theorem ggX3_lifetime_X3_lifeOf : GoodIn wsX3_lifetime wsX3_lifeOf := goodIn_r _ [19, 20, 21, 22, 23, 6, 24, 25, 26, 27, 28, 29, 30, 31, 32, 33, 34, 35, 36, 37, 38, 39, 40, 41, 42, 43, 44] (by decide +kernel) (by decide +kernel)
set_option maxRecDepth 20000 in
theorem gX3_lifetime_X3_lifeOf : GoodIn wsX3_lifetime (wsV RX3 137 RX3 yX3_lifeOf wsX3_lifeOf) := goodIn_app (goodIn_of _ (by decide +kernel)) ggX3_lifetime_X3_lifeOf
theorem dX3_lifetime_0 : decode cX3_lifetime 0 = .ok (.aload_n 0, 1) := by decide +kernel
theorem dX3_lifetime_1 : decode cX3_lifetime 1 = .ok (.iload_n 1, 1) := by decide +kernel
theorem dX3_lifetime_2 : decode cX3_lifetime 2 = .ok (.invokevirtual 118, 3) := by decide +kernel
theorem dX3_lifetime_5 : decode cX3_lifetime 5 = .ok (.ifCond .eq 11, 3) := by decide +kernel
theorem dX3_lifetime_8 : decode cX3_lifetime 8 = .ok (.aload_n 0, 1) := by decide +kernel
theorem dX3_lifetime_9 : decode cX3_lifetime 9 = .ok (.iload_n 1, 1) := by decide +kernel
theorem dX3_lifetime_10 : decode cX3_lifetime 10 = .ok (.invokevirtual 137, 3) := by decide +kernel
theorem dX3_lifetime_13 : decode cX3_lifetime 13 = .ok (.goto 4, 3) := by decide +kernel
theorem dX3_lifetime_16 : decode cX3_lifetime 16 = .ok (.iconst 0, 1) := by decide +kernel
theorem dX3_lifetime_17 : decode cX3_lifetime 17 = .ok (.ireturn, 1) := by decide +kernel
set_option maxRecDepth 20000 in
theorem ggX3_liveIn_X3_lifeOf : GoodIn wsX3_liveIn wsX3_lifeOf := goodIn_r _ [8, 2, 9, 10, 11, 3, 12, 13, 14, 15, 16, 17, 18, 19, 20, 21, 22, 23, 24, 25, 26, 27, 28, 29, 30, 31, 32] (by decide +kernel) (by decide +kernel)
set_option maxRecDepth 20000 in
theorem gX3_liveIn_X3_lifeOf : GoodIn wsX3_liveIn (wsV RX3 137 RX3 yX3_lifeOf wsX3_lifeOf) := goodIn_app (goodIn_of _ (by decide +kernel)) ggX3_liveIn_X3_lifeOf
theorem dX3_liveIn_0 : decode cX3_liveIn 0 = .ok (.iconst 0, 1) := by decide +kernel
theorem dX3_liveIn_1 : decode cX3_liveIn 1 = .ok (.istore_n 2, 1) := by decide +kernel
theorem dX3_liveIn_2 : decode cX3_liveIn 2 = .ok (.iconst 0, 1) := by decide +kernel
theorem dX3_liveIn_3 : decode cX3_liveIn 3 = .ok (.istore_n 3, 1) := by decide +kernel
theorem dX3_liveIn_4 : decode cX3_liveIn 4 = .ok (.iload_n 3, 1) := by decide +kernel
theorem dX3_liveIn_5 : decode cX3_liveIn 5 = .ok (.aload_n 0, 1) := by decide +kernel
theorem dX3_liveIn_6 : decode cX3_liveIn 6 = .ok (.getfield 48, 3) := by decide +kernel
theorem dX3_liveIn_9 : decode cX3_liveIn 9 = .ok (.if_icmp .ge 54, 3) := by decide +kernel
theorem dX3_liveIn_12 : decode cX3_liveIn 12 = .ok (.iconst 0, 1) := by decide +kernel
theorem dX3_liveIn_13 : decode cX3_liveIn 13 = .ok (.istore 4, 2) := by decide +kernel
theorem dX3_liveIn_15 : decode cX3_liveIn 15 = .ok (.iload 4, 2) := by decide +kernel
theorem dX3_liveIn_17 : decode cX3_liveIn 17 = .ok (.aload_n 0, 1) := by decide +kernel
theorem dX3_liveIn_18 : decode cX3_liveIn 18 = .ok (.iload_n 3, 1) := by decide +kernel
theorem dX3_liveIn_19 : decode cX3_liveIn 19 = .ok (.invokevirtual 137, 3) := by decide +kernel
theorem dX3_liveIn_22 : decode cX3_liveIn 22 = .ok (.if_icmp .ge 35, 3) := by decide +kernel
theorem dX3_liveIn_25 : decode cX3_liveIn 25 = .ok (.iload_n 2, 1) := by decide +kernel
theorem dX3_liveIn_26 : decode cX3_liveIn 26 = .ok (.aload_n 0, 1) := by decide +kernel
theorem dX3_liveIn_27 : decode cX3_liveIn 27 = .ok (.getfield 31, 3) := by decide +kernel
theorem dX3_liveIn_30 : decode cX3_liveIn 30 = .ok (.iload_n 3, 1) := by decide +kernel
theorem dX3_liveIn_31 : decode cX3_liveIn 31 = .ok (.iaload, 1) := by decide +kernel
theorem dX3_liveIn_32 : decode cX3_liveIn 32 = .ok (.iload 4, 2) := by decide +kernel
theorem dX3_liveIn_34 : decode cX3_liveIn 34 = .ok (.iadd, 1) := by decide +kernel
theorem dX3_liveIn_35 : decode cX3_liveIn 35 = .ok (.aload_n 0, 1) := by decide +kernel
theorem dX3_liveIn_36 : decode cX3_liveIn 36 = .ok (.getfield 59, 3) := by decide +kernel
theorem dX3_liveIn_39 : decode cX3_liveIn 39 = .ok (.irem, 1) := by decide +kernel
theorem dX3_liveIn_40 : decode cX3_liveIn 40 = .ok (.iload_n 1, 1) := by decide +kernel
theorem dX3_liveIn_41 : decode cX3_liveIn 41 = .ok (.if_icmp .ne 7, 3) := by decide +kernel
theorem dX3_liveIn_44 : decode cX3_liveIn 44 = .ok (.iconst 1, 1) := by decide +kernel
theorem dX3_liveIn_45 : decode cX3_liveIn 45 = .ok (.goto 4, 3) := by decide +kernel
theorem dX3_liveIn_48 : decode cX3_liveIn 48 = .ok (.iconst 0, 1) := by decide +kernel
theorem dX3_liveIn_49 : decode cX3_liveIn 49 = .ok (.iadd, 1) := by decide +kernel
theorem dX3_liveIn_50 : decode cX3_liveIn 50 = .ok (.istore_n 2, 1) := by decide +kernel
theorem dX3_liveIn_51 : decode cX3_liveIn 51 = .ok (.iinc 4 1, 3) := by decide +kernel
theorem dX3_liveIn_54 : decode cX3_liveIn 54 = .ok (.goto (-39), 3) := by decide +kernel
theorem dX3_liveIn_57 : decode cX3_liveIn 57 = .ok (.iinc 3 1, 3) := by decide +kernel
theorem dX3_liveIn_60 : decode cX3_liveIn 60 = .ok (.goto (-56), 3) := by decide +kernel
theorem dX3_liveIn_63 : decode cX3_liveIn 63 = .ok (.iload_n 2, 1) := by decide +kernel
theorem dX3_liveIn_64 : decode cX3_liveIn 64 = .ok (.ireturn, 1) := by decide +kernel
set_option maxRecDepth 20000 in
theorem ggX3_live_X3_isIn : GoodIn wsX3_live wsX3_isIn := goodIn_r _ [6] (by decide +kernel) (by decide +kernel)
set_option maxRecDepth 20000 in
theorem gX3_live_X3_isIn : GoodIn wsX3_live (va_wsS RX3 51 yX3_isIn wsX3_isIn) := goodIn_app (goodIn_of _ (by decide +kernel)) ggX3_live_X3_isIn
set_option maxRecDepth 20000 in
theorem ggX3_live_X3_liveIn : GoodIn wsX3_live wsX3_liveIn := goodIn_r _ [10, 11, 12, 1, 13, 14, 15, 5, 16, 17, 18, 19, 20, 21, 22, 23, 24, 25, 26, 27, 28, 29, 30, 31, 32, 33, 34, 35, 36, 37, 38, 39, 40] (by decide +kernel) (by decide +kernel)
set_option maxRecDepth 20000 in
theorem gX3_live_X3_liveIn : GoodIn wsX3_live (wsV RX3 140 RX3 yX3_liveIn wsX3_liveIn) := goodIn_app (goodIn_of _ (by decide +kernel)) ggX3_live_X3_liveIn
theorem dX3_live_0 : decode cX3_live 0 = .ok (.aload_n 0, 1) := by decide +kernel
theorem dX3_live_1 : decode cX3_live 1 = .ok (.aload_n 0, 1) := by decide +kernel
theorem dX3_live_2 : decode cX3_live 2 = .ok (.getfield 59, 3) := by decide +kernel
theorem dX3_live_5 : decode cX3_live 5 = .ok (.ifCond .ne 7, 3) := by decide +kernel
theorem dX3_live_8 : decode cX3_live 8 = .ok (.iconst 1, 1) := by decide +kernel
theorem dX3_live_9 : decode cX3_live 9 = .ok (.goto 22, 3) := by decide +kernel
theorem dX3_live_12 : decode cX3_live 12 = .ok (.iload_n 1, 1) := by decide +kernel
theorem dX3_live_13 : decode cX3_live 13 = .ok (.iconst 0, 1) := by decide +kernel
theorem dX3_live_14 : decode cX3_live 14 = .ok (.aload_n 0, 1) := by decide +kernel
theorem dX3_live_15 : decode cX3_live 15 = .ok (.getfield 59, 3) := by decide +kernel
theorem dX3_live_18 : decode cX3_live 18 = .ok (.iconst 1, 1) := by decide +kernel
theorem dX3_live_19 : decode cX3_live 19 = .ok (.isub, 1) := by decide +kernel
theorem dX3_live_20 : decode cX3_live 20 = .ok (.invokestatic 51, 3) := by decide +kernel
theorem dX3_live_23 : decode cX3_live 23 = .ok (.ifCond .ne 7, 3) := by decide +kernel
theorem dX3_live_26 : decode cX3_live 26 = .ok (.iconst 2, 1) := by decide +kernel
theorem dX3_live_27 : decode cX3_live 27 = .ok (.goto 4, 3) := by decide +kernel
theorem dX3_live_30 : decode cX3_live 30 = .ok (.iconst 0, 1) := by decide +kernel
theorem dX3_live_31 : decode cX3_live 31 = .ok (.putfield 44, 3) := by decide +kernel
theorem dX3_live_34 : decode cX3_live 34 = .ok (.aload_n 0, 1) := by decide +kernel
theorem dX3_live_35 : decode cX3_live 35 = .ok (.getfield 44, 3) := by decide +kernel
theorem dX3_live_38 : decode cX3_live 38 = .ok (.ifCond .ne 11, 3) := by decide +kernel
theorem dX3_live_41 : decode cX3_live 41 = .ok (.aload_n 0, 1) := by decide +kernel
theorem dX3_live_42 : decode cX3_live 42 = .ok (.iload_n 1, 1) := by decide +kernel
theorem dX3_live_43 : decode cX3_live 43 = .ok (.invokevirtual 140, 3) := by decide +kernel
theorem dX3_live_46 : decode cX3_live 46 = .ok (.goto 4, 3) := by decide +kernel
theorem dX3_live_49 : decode cX3_live 49 = .ok (.iconst 0, 1) := by decide +kernel
theorem dX3_live_50 : decode cX3_live 50 = .ok (.ireturn, 1) := by decide +kernel
set_option maxRecDepth 20000 in
theorem ggX3_registers_X3_liveIn : GoodIn wsX3_registers wsX3_liveIn := goodIn_r _ [10, 11, 12, 1, 13, 14, 15, 9, 16, 17, 18, 19, 20, 2, 3, 4, 5, 26, 27, 28, 29, 30, 31, 32, 33, 34, 35, 36, 37, 38, 39, 40, 41] (by decide +kernel) (by decide +kernel)
set_option maxRecDepth 20000 in
theorem gX3_registers_X3_liveIn : GoodIn wsX3_registers (wsV RX3 140 RX3 yX3_liveIn wsX3_liveIn) := goodIn_app (goodIn_of _ (by decide +kernel)) ggX3_registers_X3_liveIn
set_option maxRecDepth 20000 in
theorem ggX3_registers_X3_has : GoodIn wsX3_registers wsX3_has := goodIn_r _ [24, 1, 25, 26, 27, 28, 29, 30, 31, 32, 33, 34, 35, 36, 37, 38, 39, 40, 41] (by decide +kernel) (by decide +kernel)
set_option maxRecDepth 20000 in
theorem gX3_registers_X3_has : GoodIn wsX3_registers (wsV RX3 114 RX3 yX3_has wsX3_has) := goodIn_app (goodIn_of _ (by decide +kernel)) ggX3_registers_X3_has
theorem dX3_registers_0 : decode cX3_registers 0 = .ok (.iconst 0, 1) := by decide +kernel
theorem dX3_registers_1 : decode cX3_registers 1 = .ok (.istore_n 1, 1) := by decide +kernel
theorem dX3_registers_2 : decode cX3_registers 2 = .ok (.iconst 0, 1) := by decide +kernel
theorem dX3_registers_3 : decode cX3_registers 3 = .ok (.istore_n 2, 1) := by decide +kernel
theorem dX3_registers_4 : decode cX3_registers 4 = .ok (.iload_n 2, 1) := by decide +kernel
theorem dX3_registers_5 : decode cX3_registers 5 = .ok (.aload_n 0, 1) := by decide +kernel
theorem dX3_registers_6 : decode cX3_registers 6 = .ok (.getfield 59, 3) := by decide +kernel
theorem dX3_registers_9 : decode cX3_registers 9 = .ok (.if_icmp .ge 19, 3) := by decide +kernel
theorem dX3_registers_12 : decode cX3_registers 12 = .ok (.iload_n 1, 1) := by decide +kernel
theorem dX3_registers_13 : decode cX3_registers 13 = .ok (.aload_n 0, 1) := by decide +kernel
theorem dX3_registers_14 : decode cX3_registers 14 = .ok (.iload_n 2, 1) := by decide +kernel
theorem dX3_registers_15 : decode cX3_registers 15 = .ok (.invokevirtual 140, 3) := by decide +kernel
theorem dX3_registers_18 : decode cX3_registers 18 = .ok (.invokestatic 97, 3) := by decide +kernel
theorem dX3_registers_21 : decode cX3_registers 21 = .ok (.istore_n 1, 1) := by decide +kernel
theorem dX3_registers_22 : decode cX3_registers 22 = .ok (.iinc 2 1, 3) := by decide +kernel
theorem dX3_registers_25 : decode cX3_registers 25 = .ok (.goto (-21), 3) := by decide +kernel
theorem dX3_registers_28 : decode cX3_registers 28 = .ok (.aload_n 0, 1) := by decide +kernel
theorem dX3_registers_29 : decode cX3_registers 29 = .ok (.invokevirtual 114, 3) := by decide +kernel
theorem dX3_registers_32 : decode cX3_registers 32 = .ok (.ifCond .eq 7, 3) := by decide +kernel
theorem dX3_registers_35 : decode cX3_registers 35 = .ok (.iload_n 1, 1) := by decide +kernel
theorem dX3_registers_36 : decode cX3_registers 36 = .ok (.goto 4, 3) := by decide +kernel
theorem dX3_registers_39 : decode cX3_registers 39 = .ok (.iconst 0, 1) := by decide +kernel
theorem dX3_registers_40 : decode cX3_registers 40 = .ok (.ireturn, 1) := by decide +kernel
set_option maxRecDepth 20000 in
theorem ggX3_copiesOf_X3_lifeOf : GoodIn wsX3_copiesOf wsX3_lifeOf := goodIn_r _ [6, 7, 8, 9, 10, 1, 11, 12, 13, 14, 15, 16, 17, 18, 19, 20, 21, 22, 23, 24, 25, 26, 27, 28, 29, 30, 31] (by decide +kernel) (by decide +kernel)
set_option maxRecDepth 20000 in
theorem gX3_copiesOf_X3_lifeOf : GoodIn wsX3_copiesOf (wsV RX3 137 RX3 yX3_lifeOf wsX3_lifeOf) := goodIn_app (goodIn_of _ (by decide +kernel)) ggX3_copiesOf_X3_lifeOf
theorem dX3_copiesOf_0 : decode cX3_copiesOf 0 = .ok (.iconst 1, 1) := by decide +kernel
theorem dX3_copiesOf_1 : decode cX3_copiesOf 1 = .ok (.istore_n 2, 1) := by decide +kernel
theorem dX3_copiesOf_2 : decode cX3_copiesOf 2 = .ok (.iload_n 2, 1) := by decide +kernel
theorem dX3_copiesOf_3 : decode cX3_copiesOf 3 = .ok (.aload_n 0, 1) := by decide +kernel
theorem dX3_copiesOf_4 : decode cX3_copiesOf 4 = .ok (.getfield 59, 3) := by decide +kernel
theorem dX3_copiesOf_7 : decode cX3_copiesOf 7 = .ok (.imul, 1) := by decide +kernel
theorem dX3_copiesOf_8 : decode cX3_copiesOf 8 = .ok (.aload_n 0, 1) := by decide +kernel
theorem dX3_copiesOf_9 : decode cX3_copiesOf 9 = .ok (.iload_n 1, 1) := by decide +kernel
theorem dX3_copiesOf_10 : decode cX3_copiesOf 10 = .ok (.invokevirtual 137, 3) := by decide +kernel
theorem dX3_copiesOf_13 : decode cX3_copiesOf 13 = .ok (.if_icmp .ge 9, 3) := by decide +kernel
theorem dX3_copiesOf_16 : decode cX3_copiesOf 16 = .ok (.iinc 2 1, 3) := by decide +kernel
theorem dX3_copiesOf_19 : decode cX3_copiesOf 19 = .ok (.goto (-17), 3) := by decide +kernel
theorem dX3_copiesOf_22 : decode cX3_copiesOf 22 = .ok (.iload_n 2, 1) := by decide +kernel
theorem dX3_copiesOf_23 : decode cX3_copiesOf 23 = .ok (.ireturn, 1) := by decide +kernel
set_option maxRecDepth 20000 in
theorem ggX3_copies_X3_asks : GoodIn wsX3_copies wsX3_asks := goodIn_r _ [5, 6, 7, 8, 9, 10, 4, 11, 12, 13, 14, 15, 33, 34, 35, 36, 37, 38, 39, 40, 41, 42, 43, 44, 45, 46, 47, 48] (by decide +kernel) (by decide +kernel)
set_option maxRecDepth 20000 in
theorem gX3_copies_X3_asks : GoodIn wsX3_copies (wsV RX3 118 RX3 yX3_asks wsX3_asks) := goodIn_app (goodIn_of _ (by decide +kernel)) ggX3_copies_X3_asks
set_option maxRecDepth 20000 in
theorem ggX3_copies_X3_copiesOf : GoodIn wsX3_copies wsX3_copiesOf := goodIn_r _ [19, 6, 20, 21, 22, 4, 23, 24, 25, 26, 27, 28, 29, 30, 31, 32, 33, 34, 35, 36, 37, 38, 39, 40, 41, 42, 43, 44, 45, 46, 47, 48] (by decide +kernel) (by decide +kernel)
set_option maxRecDepth 20000 in
theorem gX3_copies_X3_copiesOf : GoodIn wsX3_copies (wsV RX3 143 RX3 yX3_copiesOf wsX3_copiesOf) := goodIn_app (goodIn_of _ (by decide +kernel)) ggX3_copies_X3_copiesOf
theorem dX3_copies_0 : decode cX3_copies 0 = .ok (.aload_n 0, 1) := by decide +kernel
theorem dX3_copies_1 : decode cX3_copies 1 = .ok (.iload_n 1, 1) := by decide +kernel
theorem dX3_copies_2 : decode cX3_copies 2 = .ok (.invokevirtual 118, 3) := by decide +kernel
theorem dX3_copies_5 : decode cX3_copies 5 = .ok (.ifCond .eq 11, 3) := by decide +kernel
theorem dX3_copies_8 : decode cX3_copies 8 = .ok (.aload_n 0, 1) := by decide +kernel
theorem dX3_copies_9 : decode cX3_copies 9 = .ok (.iload_n 1, 1) := by decide +kernel
theorem dX3_copies_10 : decode cX3_copies 10 = .ok (.invokevirtual 143, 3) := by decide +kernel
theorem dX3_copies_13 : decode cX3_copies 13 = .ok (.goto 4, 3) := by decide +kernel
theorem dX3_copies_16 : decode cX3_copies 16 = .ok (.iconst 0, 1) := by decide +kernel
theorem dX3_copies_17 : decode cX3_copies 17 = .ok (.ireturn, 1) := by decide +kernel
set_option maxRecDepth 20000 in
theorem ggX3_unrolling_X3_has : GoodIn wsX3_unrolling wsX3_has := goodIn_r _ [8, 9, 10, 28, 29, 30, 31, 32, 33, 34, 35, 36, 37, 38, 39, 40, 41, 42, 43] (by decide +kernel) (by decide +kernel)
set_option maxRecDepth 20000 in
theorem gX3_unrolling_X3_has : GoodIn wsX3_unrolling (wsV RX3 114 RX3 yX3_has wsX3_has) := goodIn_app (goodIn_of _ (by decide +kernel)) ggX3_unrolling_X3_has
set_option maxRecDepth 20000 in
theorem ggX3_unrolling_X3_copiesOf : GoodIn wsX3_unrolling wsX3_copiesOf := goodIn_r _ [14, 9, 15, 16, 17, 7, 18, 19, 20, 21, 22, 23, 24, 25, 26, 27, 28, 29, 30, 31, 32, 33, 34, 35, 36, 37, 38, 39, 40, 41, 42, 43] (by decide +kernel) (by decide +kernel)
set_option maxRecDepth 20000 in
theorem gX3_unrolling_X3_copiesOf : GoodIn wsX3_unrolling (wsV RX3 143 RX3 yX3_copiesOf wsX3_copiesOf) := goodIn_app (goodIn_of _ (by decide +kernel)) ggX3_unrolling_X3_copiesOf
theorem dX3_unrolling_0 : decode cX3_unrolling 0 = .ok (.aload_n 0, 1) := by decide +kernel
theorem dX3_unrolling_1 : decode cX3_unrolling 1 = .ok (.invokevirtual 114, 3) := by decide +kernel
theorem dX3_unrolling_4 : decode cX3_unrolling 4 = .ok (.ifCond .ne 5, 3) := by decide +kernel
theorem dX3_unrolling_7 : decode cX3_unrolling 7 = .ok (.iconst 0, 1) := by decide +kernel
theorem dX3_unrolling_8 : decode cX3_unrolling 8 = .ok (.ireturn, 1) := by decide +kernel
theorem dX3_unrolling_9 : decode cX3_unrolling 9 = .ok (.lconst 1, 1) := by decide +kernel
theorem dX3_unrolling_10 : decode cX3_unrolling 10 = .ok (.lstore_n 1, 1) := by decide +kernel
theorem dX3_unrolling_11 : decode cX3_unrolling 11 = .ok (.iconst 0, 1) := by decide +kernel
theorem dX3_unrolling_12 : decode cX3_unrolling 12 = .ok (.istore_n 3, 1) := by decide +kernel
theorem dX3_unrolling_13 : decode cX3_unrolling 13 = .ok (.iload_n 3, 1) := by decide +kernel
theorem dX3_unrolling_14 : decode cX3_unrolling 14 = .ok (.aload_n 0, 1) := by decide +kernel
theorem dX3_unrolling_15 : decode cX3_unrolling 15 = .ok (.getfield 48, 3) := by decide +kernel
theorem dX3_unrolling_18 : decode cX3_unrolling 18 = .ok (.if_icmp .ge 44, 3) := by decide +kernel
theorem dX3_unrolling_21 : decode cX3_unrolling 21 = .ok (.lload_n 1, 1) := by decide +kernel
theorem dX3_unrolling_22 : decode cX3_unrolling 22 = .ok (.lstore 4, 2) := by decide +kernel
theorem dX3_unrolling_24 : decode cX3_unrolling 24 = .ok (.lload_n 1, 1) := by decide +kernel
theorem dX3_unrolling_25 : decode cX3_unrolling 25 = .ok (.aload_n 0, 1) := by decide +kernel
theorem dX3_unrolling_26 : decode cX3_unrolling 26 = .ok (.iload_n 3, 1) := by decide +kernel
theorem dX3_unrolling_27 : decode cX3_unrolling 27 = .ok (.invokevirtual 143, 3) := by decide +kernel
theorem dX3_unrolling_30 : decode cX3_unrolling 30 = .ok (.i2l, 1) := by decide +kernel
theorem dX3_unrolling_31 : decode cX3_unrolling 31 = .ok (.lrem, 1) := by decide +kernel
theorem dX3_unrolling_32 : decode cX3_unrolling 32 = .ok (.lconst 0, 1) := by decide +kernel
theorem dX3_unrolling_33 : decode cX3_unrolling 33 = .ok (.lcmp, 1) := by decide +kernel
theorem dX3_unrolling_34 : decode cX3_unrolling 34 = .ok (.ifCond .eq 11, 3) := by decide +kernel
theorem dX3_unrolling_37 : decode cX3_unrolling 37 = .ok (.lload_n 1, 1) := by decide +kernel
theorem dX3_unrolling_38 : decode cX3_unrolling 38 = .ok (.lload 4, 2) := by decide +kernel
theorem dX3_unrolling_40 : decode cX3_unrolling 40 = .ok (.ladd, 1) := by decide +kernel
theorem dX3_unrolling_41 : decode cX3_unrolling 41 = .ok (.lstore_n 1, 1) := by decide +kernel
theorem dX3_unrolling_42 : decode cX3_unrolling 42 = .ok (.goto (-18), 3) := by decide +kernel
theorem dX3_unrolling_45 : decode cX3_unrolling 45 = .ok (.lload_n 1, 1) := by decide +kernel
theorem dX3_unrolling_46 : decode cX3_unrolling 46 = .ok (.ldc2_w 146, 3) := by decide +kernel
theorem dX3_unrolling_49 : decode cX3_unrolling 49 = .ok (.lcmp, 1) := by decide +kernel
theorem dX3_unrolling_50 : decode cX3_unrolling 50 = .ok (.ifCond .le 6, 3) := by decide +kernel
theorem dX3_unrolling_53 : decode cX3_unrolling 53 = .ok (.ldc 96, 2) := by decide +kernel
theorem dX3_unrolling_55 : decode cX3_unrolling 55 = .ok (.ireturn, 1) := by decide +kernel
theorem dX3_unrolling_56 : decode cX3_unrolling 56 = .ok (.iinc 3 1, 3) := by decide +kernel
theorem dX3_unrolling_59 : decode cX3_unrolling 59 = .ok (.goto (-46), 3) := by decide +kernel
theorem dX3_unrolling_62 : decode cX3_unrolling 62 = .ok (.lload_n 1, 1) := by decide +kernel
theorem dX3_unrolling_63 : decode cX3_unrolling 63 = .ok (.l2i, 1) := by decide +kernel
theorem dX3_unrolling_64 : decode cX3_unrolling 64 = .ok (.ireturn, 1) := by decide +kernel
set_option maxRecDepth 20000 in
theorem ggX3_cycles_X3_isIn : GoodIn wsX3_cycles wsX3_isIn := goodIn_r _ [7] (by decide +kernel) (by decide +kernel)
set_option maxRecDepth 20000 in
theorem gX3_cycles_X3_isIn : GoodIn wsX3_cycles (va_wsS RX3 51 yX3_isIn wsX3_isIn) := goodIn_app (goodIn_of _ (by decide +kernel)) ggX3_cycles_X3_isIn
set_option maxRecDepth 20000 in
theorem ggX3_cycles_X3_latest : GoodIn wsX3_cycles wsX3_latest := goodIn_r _ [11, 3, 12, 13, 14, 15, 16, 17, 18, 19, 20, 21, 22, 23, 24, 25, 26, 27, 28, 29, 30, 31, 32] (by decide +kernel) (by decide +kernel)
set_option maxRecDepth 20000 in
theorem gX3_cycles_X3_latest : GoodIn wsX3_cycles (wsV RX3 127 RX3 yX3_latest wsX3_latest) := goodIn_app (goodIn_of _ (by decide +kernel)) ggX3_cycles_X3_latest
theorem dX3_cycles_0 : decode cX3_cycles 0 = .ok (.aload_n 0, 1) := by decide +kernel
theorem dX3_cycles_1 : decode cX3_cycles 1 = .ok (.aload_n 0, 1) := by decide +kernel
theorem dX3_cycles_2 : decode cX3_cycles 2 = .ok (.getfield 59, 3) := by decide +kernel
theorem dX3_cycles_5 : decode cX3_cycles 5 = .ok (.ifCond .ne 7, 3) := by decide +kernel
theorem dX3_cycles_8 : decode cX3_cycles 8 = .ok (.iconst 1, 1) := by decide +kernel
theorem dX3_cycles_9 : decode cX3_cycles 9 = .ok (.goto 19, 3) := by decide +kernel
theorem dX3_cycles_12 : decode cX3_cycles 12 = .ok (.iload_n 1, 1) := by decide +kernel
theorem dX3_cycles_13 : decode cX3_cycles 13 = .ok (.iconst 1, 1) := by decide +kernel
theorem dX3_cycles_14 : decode cX3_cycles 14 = .ok (.sipush 1000, 3) := by decide +kernel
theorem dX3_cycles_17 : decode cX3_cycles 17 = .ok (.invokestatic 51, 3) := by decide +kernel
theorem dX3_cycles_20 : decode cX3_cycles 20 = .ok (.ifCond .ne 7, 3) := by decide +kernel
theorem dX3_cycles_23 : decode cX3_cycles 23 = .ok (.iconst 2, 1) := by decide +kernel
theorem dX3_cycles_24 : decode cX3_cycles 24 = .ok (.goto 4, 3) := by decide +kernel
theorem dX3_cycles_27 : decode cX3_cycles 27 = .ok (.iconst 0, 1) := by decide +kernel
theorem dX3_cycles_28 : decode cX3_cycles 28 = .ok (.putfield 44, 3) := by decide +kernel
theorem dX3_cycles_31 : decode cX3_cycles 31 = .ok (.aload_n 0, 1) := by decide +kernel
theorem dX3_cycles_32 : decode cX3_cycles 32 = .ok (.getfield 44, 3) := by decide +kernel
theorem dX3_cycles_35 : decode cX3_cycles 35 = .ok (.ifCond .gt 10, 3) := by decide +kernel
theorem dX3_cycles_38 : decode cX3_cycles 38 = .ok (.aload_n 0, 1) := by decide +kernel
theorem dX3_cycles_39 : decode cX3_cycles 39 = .ok (.getfield 48, 3) := by decide +kernel
theorem dX3_cycles_42 : decode cX3_cycles 42 = .ok (.ifCond .ne 7, 3) := by decide +kernel
theorem dX3_cycles_45 : decode cX3_cycles 45 = .ok (.iconst 0, 1) := by decide +kernel
theorem dX3_cycles_46 : decode cX3_cycles 46 = .ok (.goto 18, 3) := by decide +kernel
theorem dX3_cycles_49 : decode cX3_cycles 49 = .ok (.aload_n 0, 1) := by decide +kernel
theorem dX3_cycles_50 : decode cX3_cycles 50 = .ok (.invokevirtual 127, 3) := by decide +kernel
theorem dX3_cycles_53 : decode cX3_cycles 53 = .ok (.iload_n 1, 1) := by decide +kernel
theorem dX3_cycles_54 : decode cX3_cycles 54 = .ok (.iconst 1, 1) := by decide +kernel
theorem dX3_cycles_55 : decode cX3_cycles 55 = .ok (.isub, 1) := by decide +kernel
theorem dX3_cycles_56 : decode cX3_cycles 56 = .ok (.aload_n 0, 1) := by decide +kernel
theorem dX3_cycles_57 : decode cX3_cycles 57 = .ok (.getfield 59, 3) := by decide +kernel
theorem dX3_cycles_60 : decode cX3_cycles 60 = .ok (.imul, 1) := by decide +kernel
theorem dX3_cycles_61 : decode cX3_cycles 61 = .ok (.iadd, 1) := by decide +kernel
theorem dX3_cycles_62 : decode cX3_cycles 62 = .ok (.iconst 1, 1) := by decide +kernel
theorem dX3_cycles_63 : decode cX3_cycles 63 = .ok (.iadd, 1) := by decide +kernel
theorem dX3_cycles_64 : decode cX3_cycles 64 = .ok (.ireturn, 1) := by decide +kernel
theorem dX3_issueAt_0 : decode cX3_issueAt 0 = .ok (.iload_n 3, 1) := by decide +kernel
theorem dX3_issueAt_1 : decode cX3_issueAt 1 = .ok (.istore 4, 2) := by decide +kernel
theorem dX3_issueAt_3 : decode cX3_issueAt 3 = .ok (.iconst 0, 1) := by decide +kernel
theorem dX3_issueAt_4 : decode cX3_issueAt 4 = .ok (.istore 5, 2) := by decide +kernel
theorem dX3_issueAt_6 : decode cX3_issueAt 6 = .ok (.iload 5, 2) := by decide +kernel
theorem dX3_issueAt_8 : decode cX3_issueAt 8 = .ok (.iload_n 1, 1) := by decide +kernel
theorem dX3_issueAt_9 : decode cX3_issueAt 9 = .ok (.if_icmp .ge 71, 3) := by decide +kernel
theorem dX3_issueAt_12 : decode cX3_issueAt 12 = .ok (.iload 4, 2) := by decide +kernel
theorem dX3_issueAt_14 : decode cX3_issueAt 14 = .ok (.ifCond .lt 66, 3) := by decide +kernel
theorem dX3_issueAt_17 : decode cX3_issueAt 17 = .ok (.iconst 0, 1) := by decide +kernel
theorem dX3_issueAt_18 : decode cX3_issueAt 18 = .ok (.istore 6, 2) := by decide +kernel
theorem dX3_issueAt_20 : decode cX3_issueAt 20 = .ok (.iload 6, 2) := by decide +kernel
theorem dX3_issueAt_22 : decode cX3_issueAt 22 = .ok (.aload_n 0, 1) := by decide +kernel
theorem dX3_issueAt_23 : decode cX3_issueAt 23 = .ok (.getfield 48, 3) := by decide +kernel
theorem dX3_issueAt_26 : decode cX3_issueAt 26 = .ok (.if_icmp .ge 48, 3) := by decide +kernel
theorem dX3_issueAt_29 : decode cX3_issueAt 29 = .ok (.aload_n 0, 1) := by decide +kernel
theorem dX3_issueAt_30 : decode cX3_issueAt 30 = .ok (.getfield 31, 3) := by decide +kernel
theorem dX3_issueAt_33 : decode cX3_issueAt 33 = .ok (.iload 6, 2) := by decide +kernel
theorem dX3_issueAt_35 : decode cX3_issueAt 35 = .ok (.iaload, 1) := by decide +kernel
theorem dX3_issueAt_36 : decode cX3_issueAt 36 = .ok (.iload 5, 2) := by decide +kernel
theorem dX3_issueAt_38 : decode cX3_issueAt 38 = .ok (.aload_n 0, 1) := by decide +kernel
theorem dX3_issueAt_39 : decode cX3_issueAt 39 = .ok (.getfield 59, 3) := by decide +kernel
theorem dX3_issueAt_42 : decode cX3_issueAt 42 = .ok (.imul, 1) := by decide +kernel
theorem dX3_issueAt_43 : decode cX3_issueAt 43 = .ok (.iadd, 1) := by decide +kernel
theorem dX3_issueAt_44 : decode cX3_issueAt 44 = .ok (.iload_n 2, 1) := by decide +kernel
theorem dX3_issueAt_45 : decode cX3_issueAt 45 = .ok (.if_icmp .eq 6, 3) := by decide +kernel
theorem dX3_issueAt_48 : decode cX3_issueAt 48 = .ok (.goto 20, 3) := by decide +kernel
theorem dX3_issueAt_51 : decode cX3_issueAt 51 = .ok (.iload 4, 2) := by decide +kernel
theorem dX3_issueAt_53 : decode cX3_issueAt 53 = .ok (.ifCond .ne 12, 3) := by decide +kernel
theorem dX3_issueAt_56 : decode cX3_issueAt 56 = .ok (.bipush 14, 2) := by decide +kernel
theorem dX3_issueAt_58 : decode cX3_issueAt 58 = .ok (.iload 5, 2) := by decide +kernel
theorem dX3_issueAt_60 : decode cX3_issueAt 60 = .ok (.imul, 1) := by decide +kernel
theorem dX3_issueAt_61 : decode cX3_issueAt 61 = .ok (.iload 6, 2) := by decide +kernel
theorem dX3_issueAt_63 : decode cX3_issueAt 63 = .ok (.iadd, 1) := by decide +kernel
theorem dX3_issueAt_64 : decode cX3_issueAt 64 = .ok (.ireturn, 1) := by decide +kernel
theorem dX3_issueAt_65 : decode cX3_issueAt 65 = .ok (.iinc 4 (-1), 3) := by decide +kernel
theorem dX3_issueAt_68 : decode cX3_issueAt 68 = .ok (.iinc 6 1, 3) := by decide +kernel
theorem dX3_issueAt_71 : decode cX3_issueAt 71 = .ok (.goto (-51), 3) := by decide +kernel
theorem dX3_issueAt_74 : decode cX3_issueAt 74 = .ok (.iinc 5 1, 3) := by decide +kernel
theorem dX3_issueAt_77 : decode cX3_issueAt 77 = .ok (.goto (-71), 3) := by decide +kernel
theorem dX3_issueAt_80 : decode cX3_issueAt 80 = .ok (.iconst (-1), 1) := by decide +kernel
theorem dX3_issueAt_81 : decode cX3_issueAt 81 = .ok (.ireturn, 1) := by decide +kernel
theorem dX3_issuedIn_0 : decode cX3_issuedIn 0 = .ok (.iconst 0, 1) := by decide +kernel
theorem dX3_issuedIn_1 : decode cX3_issuedIn 1 = .ok (.istore_n 3, 1) := by decide +kernel
theorem dX3_issuedIn_2 : decode cX3_issuedIn 2 = .ok (.iconst 0, 1) := by decide +kernel
theorem dX3_issuedIn_3 : decode cX3_issuedIn 3 = .ok (.istore 4, 2) := by decide +kernel
theorem dX3_issuedIn_5 : decode cX3_issuedIn 5 = .ok (.iload 4, 2) := by decide +kernel
theorem dX3_issuedIn_7 : decode cX3_issuedIn 7 = .ok (.aload_n 0, 1) := by decide +kernel
theorem dX3_issuedIn_8 : decode cX3_issuedIn 8 = .ok (.getfield 48, 3) := by decide +kernel
theorem dX3_issuedIn_11 : decode cX3_issuedIn 11 = .ok (.if_icmp .ge 54, 3) := by decide +kernel
theorem dX3_issuedIn_14 : decode cX3_issuedIn 14 = .ok (.iload_n 2, 1) := by decide +kernel
theorem dX3_issuedIn_15 : decode cX3_issuedIn 15 = .ok (.aload_n 0, 1) := by decide +kernel
theorem dX3_issuedIn_16 : decode cX3_issuedIn 16 = .ok (.getfield 31, 3) := by decide +kernel
theorem dX3_issuedIn_19 : decode cX3_issuedIn 19 = .ok (.iload 4, 2) := by decide +kernel
theorem dX3_issuedIn_21 : decode cX3_issuedIn 21 = .ok (.iaload, 1) := by decide +kernel
theorem dX3_issuedIn_22 : decode cX3_issuedIn 22 = .ok (.isub, 1) := by decide +kernel
theorem dX3_issuedIn_23 : decode cX3_issuedIn 23 = .ok (.istore 5, 2) := by decide +kernel
theorem dX3_issuedIn_25 : decode cX3_issuedIn 25 = .ok (.iload_n 3, 1) := by decide +kernel
theorem dX3_issuedIn_26 : decode cX3_issuedIn 26 = .ok (.iload 5, 2) := by decide +kernel
theorem dX3_issuedIn_28 : decode cX3_issuedIn 28 = .ok (.ifCond .lt 28, 3) := by decide +kernel
theorem dX3_issuedIn_31 : decode cX3_issuedIn 31 = .ok (.iload 5, 2) := by decide +kernel
theorem dX3_issuedIn_33 : decode cX3_issuedIn 33 = .ok (.aload_n 0, 1) := by decide +kernel
theorem dX3_issuedIn_34 : decode cX3_issuedIn 34 = .ok (.getfield 59, 3) := by decide +kernel
theorem dX3_issuedIn_37 : decode cX3_issuedIn 37 = .ok (.irem, 1) := by decide +kernel
theorem dX3_issuedIn_38 : decode cX3_issuedIn 38 = .ok (.ifCond .ne 18, 3) := by decide +kernel
theorem dX3_issuedIn_41 : decode cX3_issuedIn 41 = .ok (.iload 5, 2) := by decide +kernel
theorem dX3_issuedIn_43 : decode cX3_issuedIn 43 = .ok (.aload_n 0, 1) := by decide +kernel
theorem dX3_issuedIn_44 : decode cX3_issuedIn 44 = .ok (.getfield 59, 3) := by decide +kernel
theorem dX3_issuedIn_47 : decode cX3_issuedIn 47 = .ok (.idiv, 1) := by decide +kernel
theorem dX3_issuedIn_48 : decode cX3_issuedIn 48 = .ok (.iload_n 1, 1) := by decide +kernel
theorem dX3_issuedIn_49 : decode cX3_issuedIn 49 = .ok (.if_icmp .ge 7, 3) := by decide +kernel
theorem dX3_issuedIn_52 : decode cX3_issuedIn 52 = .ok (.iconst 1, 1) := by decide +kernel
theorem dX3_issuedIn_53 : decode cX3_issuedIn 53 = .ok (.goto 4, 3) := by decide +kernel
theorem dX3_issuedIn_56 : decode cX3_issuedIn 56 = .ok (.iconst 0, 1) := by decide +kernel
theorem dX3_issuedIn_57 : decode cX3_issuedIn 57 = .ok (.iadd, 1) := by decide +kernel
theorem dX3_issuedIn_58 : decode cX3_issuedIn 58 = .ok (.istore_n 3, 1) := by decide +kernel
theorem dX3_issuedIn_59 : decode cX3_issuedIn 59 = .ok (.iinc 4 1, 3) := by decide +kernel
theorem dX3_issuedIn_62 : decode cX3_issuedIn 62 = .ok (.goto (-57), 3) := by decide +kernel
theorem dX3_issuedIn_65 : decode cX3_issuedIn 65 = .ok (.iload_n 3, 1) := by decide +kernel
theorem dX3_issuedIn_66 : decode cX3_issuedIn 66 = .ok (.ireturn, 1) := by decide +kernel
set_option maxRecDepth 20000 in
theorem ggX3_issued_X3_isIn : GoodIn wsX3_issued wsX3_isIn := goodIn_r _ [6] (by decide +kernel) (by decide +kernel)
set_option maxRecDepth 20000 in
theorem gX3_issued_X3_isIn : GoodIn wsX3_issued (va_wsS RX3 51 yX3_isIn wsX3_isIn) := goodIn_app (goodIn_of _ (by decide +kernel)) ggX3_issued_X3_isIn
set_option maxRecDepth 20000 in
theorem ggX3_issued_X3_issuedIn : GoodIn wsX3_issued wsX3_issuedIn := goodIn_r _ [10, 11, 12, 1, 13, 14, 15, 16, 17, 18, 19, 20, 21, 22, 23, 24, 25, 26, 27, 28] (by decide +kernel) (by decide +kernel)
set_option maxRecDepth 20000 in
theorem gX3_issued_X3_issuedIn : GoodIn wsX3_issued (wsV RX3 148 RX3 yX3_issuedIn wsX3_issuedIn) := goodIn_app (goodIn_of _ (by decide +kernel)) ggX3_issued_X3_issuedIn
theorem dX3_issued_0 : decode cX3_issued 0 = .ok (.aload_n 0, 1) := by decide +kernel
theorem dX3_issued_1 : decode cX3_issued 1 = .ok (.aload_n 0, 1) := by decide +kernel
theorem dX3_issued_2 : decode cX3_issued 2 = .ok (.getfield 59, 3) := by decide +kernel
theorem dX3_issued_5 : decode cX3_issued 5 = .ok (.ifCond .ne 7, 3) := by decide +kernel
theorem dX3_issued_8 : decode cX3_issued 8 = .ok (.iconst 1, 1) := by decide +kernel
theorem dX3_issued_9 : decode cX3_issued 9 = .ok (.goto 23, 3) := by decide +kernel
theorem dX3_issued_12 : decode cX3_issued 12 = .ok (.iload_n 1, 1) := by decide +kernel
theorem dX3_issued_13 : decode cX3_issued 13 = .ok (.iconst 1, 1) := by decide +kernel
theorem dX3_issued_14 : decode cX3_issued 14 = .ok (.sipush 1000, 3) := by decide +kernel
theorem dX3_issued_17 : decode cX3_issued 17 = .ok (.invokestatic 51, 3) := by decide +kernel
theorem dX3_issued_20 : decode cX3_issued 20 = .ok (.ifCond .eq 7, 3) := by decide +kernel
theorem dX3_issued_23 : decode cX3_issued 23 = .ok (.iload_n 2, 1) := by decide +kernel
theorem dX3_issued_24 : decode cX3_issued 24 = .ok (.ifCond .ge 7, 3) := by decide +kernel
theorem dX3_issued_27 : decode cX3_issued 27 = .ok (.iconst 2, 1) := by decide +kernel
theorem dX3_issued_28 : decode cX3_issued 28 = .ok (.goto 4, 3) := by decide +kernel
theorem dX3_issued_31 : decode cX3_issued 31 = .ok (.iconst 0, 1) := by decide +kernel
theorem dX3_issued_32 : decode cX3_issued 32 = .ok (.putfield 44, 3) := by decide +kernel
theorem dX3_issued_35 : decode cX3_issued 35 = .ok (.aload_n 0, 1) := by decide +kernel
theorem dX3_issued_36 : decode cX3_issued 36 = .ok (.getfield 44, 3) := by decide +kernel
theorem dX3_issued_39 : decode cX3_issued 39 = .ok (.ifCond .ne 12, 3) := by decide +kernel
theorem dX3_issued_42 : decode cX3_issued 42 = .ok (.aload_n 0, 1) := by decide +kernel
theorem dX3_issued_43 : decode cX3_issued 43 = .ok (.iload_n 1, 1) := by decide +kernel
theorem dX3_issued_44 : decode cX3_issued 44 = .ok (.iload_n 2, 1) := by decide +kernel
theorem dX3_issued_45 : decode cX3_issued 45 = .ok (.invokevirtual 148, 3) := by decide +kernel
theorem dX3_issued_48 : decode cX3_issued 48 = .ok (.goto 4, 3) := by decide +kernel
theorem dX3_issued_51 : decode cX3_issued 51 = .ok (.iconst 0, 1) := by decide +kernel
theorem dX3_issued_52 : decode cX3_issued 52 = .ok (.ireturn, 1) := by decide +kernel
set_option maxRecDepth 20000 in
theorem ggX3_issue_X3_isIn : GoodIn wsX3_issue wsX3_isIn := goodIn_r _ [6] (by decide +kernel) (by decide +kernel)
set_option maxRecDepth 20000 in
theorem gX3_issue_X3_isIn : GoodIn wsX3_issue (va_wsS RX3 51 yX3_isIn wsX3_isIn) := goodIn_app (goodIn_of _ (by decide +kernel)) ggX3_issue_X3_isIn
set_option maxRecDepth 20000 in
theorem ggX3_issue_X3_issuedIn : GoodIn wsX3_issue wsX3_issuedIn := goodIn_r _ [10, 11, 12, 1, 17, 18, 19, 20, 21, 22, 23, 24, 25, 26, 27, 28, 29, 30, 31, 32] (by decide +kernel) (by decide +kernel)
set_option maxRecDepth 20000 in
theorem gX3_issue_X3_issuedIn : GoodIn wsX3_issue (wsV RX3 148 RX3 yX3_issuedIn wsX3_issuedIn) := goodIn_app (goodIn_of _ (by decide +kernel)) ggX3_issue_X3_issuedIn
set_option maxRecDepth 20000 in
theorem ggX3_issue_X3_issueAt : GoodIn wsX3_issue wsX3_issueAt := goodIn_r _ [16, 11, 12, 1, 17, 18, 19, 20, 21, 22, 23, 24, 25, 26, 27, 28, 29, 30, 31, 32] (by decide +kernel) (by decide +kernel)
set_option maxRecDepth 20000 in
theorem gX3_issue_X3_issueAt : GoodIn wsX3_issue (wsV RX3 151 RX3 yX3_issueAt wsX3_issueAt) := goodIn_app (goodIn_of _ (by decide +kernel)) ggX3_issue_X3_issueAt
theorem dX3_issue_0 : decode cX3_issue 0 = .ok (.aload_n 0, 1) := by decide +kernel
theorem dX3_issue_1 : decode cX3_issue 1 = .ok (.aload_n 0, 1) := by decide +kernel
theorem dX3_issue_2 : decode cX3_issue 2 = .ok (.getfield 59, 3) := by decide +kernel
theorem dX3_issue_5 : decode cX3_issue 5 = .ok (.ifCond .ne 7, 3) := by decide +kernel
theorem dX3_issue_8 : decode cX3_issue 8 = .ok (.iconst 1, 1) := by decide +kernel
theorem dX3_issue_9 : decode cX3_issue 9 = .ok (.goto 41, 3) := by decide +kernel
theorem dX3_issue_12 : decode cX3_issue 12 = .ok (.iload_n 1, 1) := by decide +kernel
theorem dX3_issue_13 : decode cX3_issue 13 = .ok (.iconst 1, 1) := by decide +kernel
theorem dX3_issue_14 : decode cX3_issue 14 = .ok (.sipush 1000, 3) := by decide +kernel
theorem dX3_issue_17 : decode cX3_issue 17 = .ok (.invokestatic 51, 3) := by decide +kernel
theorem dX3_issue_20 : decode cX3_issue 20 = .ok (.ifCond .eq 7, 3) := by decide +kernel
theorem dX3_issue_23 : decode cX3_issue 23 = .ok (.iload_n 2, 1) := by decide +kernel
theorem dX3_issue_24 : decode cX3_issue 24 = .ok (.ifCond .ge 7, 3) := by decide +kernel
theorem dX3_issue_27 : decode cX3_issue 27 = .ok (.iconst 2, 1) := by decide +kernel
theorem dX3_issue_28 : decode cX3_issue 28 = .ok (.goto 22, 3) := by decide +kernel
theorem dX3_issue_31 : decode cX3_issue 31 = .ok (.iload_n 3, 1) := by decide +kernel
theorem dX3_issue_32 : decode cX3_issue 32 = .ok (.ifCond .lt 13, 3) := by decide +kernel
theorem dX3_issue_35 : decode cX3_issue 35 = .ok (.iload_n 3, 1) := by decide +kernel
theorem dX3_issue_36 : decode cX3_issue 36 = .ok (.aload_n 0, 1) := by decide +kernel
theorem dX3_issue_37 : decode cX3_issue 37 = .ok (.iload_n 1, 1) := by decide +kernel
theorem dX3_issue_38 : decode cX3_issue 38 = .ok (.iload_n 2, 1) := by decide +kernel
theorem dX3_issue_39 : decode cX3_issue 39 = .ok (.invokevirtual 148, 3) := by decide +kernel
theorem dX3_issue_42 : decode cX3_issue 42 = .ok (.if_icmp .lt 7, 3) := by decide +kernel
theorem dX3_issue_45 : decode cX3_issue 45 = .ok (.iconst 3, 1) := by decide +kernel
theorem dX3_issue_46 : decode cX3_issue 46 = .ok (.goto 4, 3) := by decide +kernel
theorem dX3_issue_49 : decode cX3_issue 49 = .ok (.iconst 0, 1) := by decide +kernel
theorem dX3_issue_50 : decode cX3_issue 50 = .ok (.putfield 44, 3) := by decide +kernel
theorem dX3_issue_53 : decode cX3_issue 53 = .ok (.aload_n 0, 1) := by decide +kernel
theorem dX3_issue_54 : decode cX3_issue 54 = .ok (.getfield 44, 3) := by decide +kernel
theorem dX3_issue_57 : decode cX3_issue 57 = .ok (.ifCond .ne 13, 3) := by decide +kernel
theorem dX3_issue_60 : decode cX3_issue 60 = .ok (.aload_n 0, 1) := by decide +kernel
theorem dX3_issue_61 : decode cX3_issue 61 = .ok (.iload_n 1, 1) := by decide +kernel
theorem dX3_issue_62 : decode cX3_issue 62 = .ok (.iload_n 2, 1) := by decide +kernel
theorem dX3_issue_63 : decode cX3_issue 63 = .ok (.iload_n 3, 1) := by decide +kernel
theorem dX3_issue_64 : decode cX3_issue 64 = .ok (.invokevirtual 151, 3) := by decide +kernel
theorem dX3_issue_67 : decode cX3_issue 67 = .ok (.goto 4, 3) := by decide +kernel
theorem dX3_issue_70 : decode cX3_issue 70 = .ok (.iconst 0, 1) := by decide +kernel
theorem dX3_issue_71 : decode cX3_issue 71 = .ok (.ireturn, 1) := by decide +kernel
set_option maxRecDepth 20000 in
theorem ggX3_prologue_X3_has : GoodIn wsX3_prologue wsX3_has := goodIn_r _ [6, 1, 7, 26, 27, 28, 29, 30, 31, 32, 33, 34, 35, 36, 37, 38, 39, 40, 41] (by decide +kernel) (by decide +kernel)
set_option maxRecDepth 20000 in
theorem gX3_prologue_X3_has : GoodIn wsX3_prologue (wsV RX3 114 RX3 yX3_has wsX3_has) := goodIn_app (goodIn_of _ (by decide +kernel)) ggX3_prologue_X3_has
set_option maxRecDepth 20000 in
theorem ggX3_prologue_X3_stageCount : GoodIn wsX3_prologue wsX3_stageCount := goodIn_r _ [11, 12, 1, 13, 14, 15, 5, 16, 17, 18, 19, 20, 21, 26, 27, 28, 29, 30, 31, 32, 33, 34, 35, 36, 37, 38, 39, 40, 41] (by decide +kernel) (by decide +kernel)
set_option maxRecDepth 20000 in
theorem gX3_prologue_X3_stageCount : GoodIn wsX3_prologue (wsV RX3 130 RX3 yX3_stageCount wsX3_stageCount) := goodIn_app (goodIn_of _ (by decide +kernel)) ggX3_prologue_X3_stageCount
set_option maxRecDepth 20000 in
theorem ggX3_prologue_X3_issuedIn : GoodIn wsX3_prologue wsX3_issuedIn := goodIn_r _ [25, 12, 17, 1, 26, 27, 28, 29, 30, 31, 32, 33, 34, 35, 36, 37, 38, 39, 40, 41] (by decide +kernel) (by decide +kernel)
set_option maxRecDepth 20000 in
theorem gX3_prologue_X3_issuedIn : GoodIn wsX3_prologue (wsV RX3 148 RX3 yX3_issuedIn wsX3_issuedIn) := goodIn_app (goodIn_of _ (by decide +kernel)) ggX3_prologue_X3_issuedIn
theorem dX3_prologue_0 : decode cX3_prologue 0 = .ok (.aload_n 0, 1) := by decide +kernel
theorem dX3_prologue_1 : decode cX3_prologue 1 = .ok (.invokevirtual 114, 3) := by decide +kernel
theorem dX3_prologue_4 : decode cX3_prologue 4 = .ok (.ifCond .ne 5, 3) := by decide +kernel
theorem dX3_prologue_7 : decode cX3_prologue 7 = .ok (.iconst 0, 1) := by decide +kernel
theorem dX3_prologue_8 : decode cX3_prologue 8 = .ok (.ireturn, 1) := by decide +kernel
theorem dX3_prologue_9 : decode cX3_prologue 9 = .ok (.iconst 0, 1) := by decide +kernel
theorem dX3_prologue_10 : decode cX3_prologue 10 = .ok (.istore_n 1, 1) := by decide +kernel
theorem dX3_prologue_11 : decode cX3_prologue 11 = .ok (.iconst 0, 1) := by decide +kernel
theorem dX3_prologue_12 : decode cX3_prologue 12 = .ok (.istore_n 2, 1) := by decide +kernel
theorem dX3_prologue_13 : decode cX3_prologue 13 = .ok (.iload_n 2, 1) := by decide +kernel
theorem dX3_prologue_14 : decode cX3_prologue 14 = .ok (.aload_n 0, 1) := by decide +kernel
theorem dX3_prologue_15 : decode cX3_prologue 15 = .ok (.invokevirtual 130, 3) := by decide +kernel
theorem dX3_prologue_18 : decode cX3_prologue 18 = .ok (.iconst 1, 1) := by decide +kernel
theorem dX3_prologue_19 : decode cX3_prologue 19 = .ok (.isub, 1) := by decide +kernel
theorem dX3_prologue_20 : decode cX3_prologue 20 = .ok (.aload_n 0, 1) := by decide +kernel
theorem dX3_prologue_21 : decode cX3_prologue 21 = .ok (.getfield 59, 3) := by decide +kernel
theorem dX3_prologue_24 : decode cX3_prologue 24 = .ok (.imul, 1) := by decide +kernel
theorem dX3_prologue_25 : decode cX3_prologue 25 = .ok (.if_icmp .ge 20, 3) := by decide +kernel
theorem dX3_prologue_28 : decode cX3_prologue 28 = .ok (.iload_n 1, 1) := by decide +kernel
theorem dX3_prologue_29 : decode cX3_prologue 29 = .ok (.aload_n 0, 1) := by decide +kernel
theorem dX3_prologue_30 : decode cX3_prologue 30 = .ok (.sipush 1000, 3) := by decide +kernel
theorem dX3_prologue_33 : decode cX3_prologue 33 = .ok (.iload_n 2, 1) := by decide +kernel
theorem dX3_prologue_34 : decode cX3_prologue 34 = .ok (.invokevirtual 148, 3) := by decide +kernel
theorem dX3_prologue_37 : decode cX3_prologue 37 = .ok (.iadd, 1) := by decide +kernel
theorem dX3_prologue_38 : decode cX3_prologue 38 = .ok (.istore_n 1, 1) := by decide +kernel
theorem dX3_prologue_39 : decode cX3_prologue 39 = .ok (.iinc 2 1, 3) := by decide +kernel
theorem dX3_prologue_42 : decode cX3_prologue 42 = .ok (.goto (-29), 3) := by decide +kernel
theorem dX3_prologue_45 : decode cX3_prologue 45 = .ok (.iload_n 1, 1) := by decide +kernel
theorem dX3_prologue_46 : decode cX3_prologue 46 = .ok (.ireturn, 1) := by decide +kernel
set_option maxRecDepth 20000 in
theorem ggX3_epilogue_X3_has : GoodIn wsX3_epilogue wsX3_has := goodIn_r _ [10, 1, 11, 26, 27, 28, 29, 30, 31, 32, 33, 34, 35, 36, 37, 38, 39, 40, 41] (by decide +kernel) (by decide +kernel)
set_option maxRecDepth 20000 in
theorem gX3_epilogue_X3_has : GoodIn wsX3_epilogue (wsV RX3 114 RX3 yX3_has wsX3_has) := goodIn_app (goodIn_of _ (by decide +kernel)) ggX3_epilogue_X3_has
set_option maxRecDepth 20000 in
theorem ggX3_epilogue_X3_latest : GoodIn wsX3_epilogue wsX3_latest := goodIn_r _ [15, 16, 17, 2, 3, 4, 5, 26, 27, 28, 29, 30, 31, 32, 33, 34, 35, 36, 37, 38, 39, 40, 41] (by decide +kernel) (by decide +kernel)
set_option maxRecDepth 20000 in
theorem gX3_epilogue_X3_latest : GoodIn wsX3_epilogue (wsV RX3 127 RX3 yX3_latest wsX3_latest) := goodIn_app (goodIn_of _ (by decide +kernel)) ggX3_epilogue_X3_latest
set_option maxRecDepth 20000 in
theorem ggX3_epilogue_X3_stageCount : GoodIn wsX3_epilogue wsX3_stageCount := goodIn_r _ [21, 16, 1, 12, 13, 14, 9, 15, 17, 2, 3, 4, 5, 26, 27, 28, 29, 30, 31, 32, 33, 34, 35, 36, 37, 38, 39, 40, 41] (by decide +kernel) (by decide +kernel)
set_option maxRecDepth 20000 in
theorem gX3_epilogue_X3_stageCount : GoodIn wsX3_epilogue (wsV RX3 130 RX3 yX3_stageCount wsX3_stageCount) := goodIn_app (goodIn_of _ (by decide +kernel)) ggX3_epilogue_X3_stageCount
set_option maxRecDepth 20000 in
theorem ggX3_epilogue_X3_issuedIn : GoodIn wsX3_epilogue wsX3_issuedIn := goodIn_r _ [25, 16, 17, 1, 26, 27, 28, 29, 30, 31, 32, 33, 34, 35, 36, 37, 38, 39, 40, 41] (by decide +kernel) (by decide +kernel)
set_option maxRecDepth 20000 in
theorem gX3_epilogue_X3_issuedIn : GoodIn wsX3_epilogue (wsV RX3 148 RX3 yX3_issuedIn wsX3_issuedIn) := goodIn_app (goodIn_of _ (by decide +kernel)) ggX3_epilogue_X3_issuedIn
theorem dX3_epilogue_0 : decode cX3_epilogue 0 = .ok (.aload_n 0, 1) := by decide +kernel
theorem dX3_epilogue_1 : decode cX3_epilogue 1 = .ok (.invokevirtual 114, 3) := by decide +kernel
theorem dX3_epilogue_4 : decode cX3_epilogue 4 = .ok (.ifCond .ne 5, 3) := by decide +kernel
theorem dX3_epilogue_7 : decode cX3_epilogue 7 = .ok (.iconst 0, 1) := by decide +kernel
theorem dX3_epilogue_8 : decode cX3_epilogue 8 = .ok (.ireturn, 1) := by decide +kernel
theorem dX3_epilogue_9 : decode cX3_epilogue 9 = .ok (.iconst 0, 1) := by decide +kernel
theorem dX3_epilogue_10 : decode cX3_epilogue 10 = .ok (.istore_n 1, 1) := by decide +kernel
theorem dX3_epilogue_11 : decode cX3_epilogue 11 = .ok (.aload_n 0, 1) := by decide +kernel
theorem dX3_epilogue_12 : decode cX3_epilogue 12 = .ok (.invokevirtual 127, 3) := by decide +kernel
theorem dX3_epilogue_15 : decode cX3_epilogue 15 = .ok (.aload_n 0, 1) := by decide +kernel
theorem dX3_epilogue_16 : decode cX3_epilogue 16 = .ok (.invokevirtual 130, 3) := by decide +kernel
theorem dX3_epilogue_19 : decode cX3_epilogue 19 = .ok (.aload_n 0, 1) := by decide +kernel
theorem dX3_epilogue_20 : decode cX3_epilogue 20 = .ok (.getfield 59, 3) := by decide +kernel
theorem dX3_epilogue_23 : decode cX3_epilogue 23 = .ok (.imul, 1) := by decide +kernel
theorem dX3_epilogue_24 : decode cX3_epilogue 24 = .ok (.iadd, 1) := by decide +kernel
theorem dX3_epilogue_25 : decode cX3_epilogue 25 = .ok (.istore_n 2, 1) := by decide +kernel
theorem dX3_epilogue_26 : decode cX3_epilogue 26 = .ok (.aload_n 0, 1) := by decide +kernel
theorem dX3_epilogue_27 : decode cX3_epilogue 27 = .ok (.invokevirtual 130, 3) := by decide +kernel
theorem dX3_epilogue_30 : decode cX3_epilogue 30 = .ok (.aload_n 0, 1) := by decide +kernel
theorem dX3_epilogue_31 : decode cX3_epilogue 31 = .ok (.getfield 59, 3) := by decide +kernel
theorem dX3_epilogue_34 : decode cX3_epilogue 34 = .ok (.imul, 1) := by decide +kernel
theorem dX3_epilogue_35 : decode cX3_epilogue 35 = .ok (.istore_n 3, 1) := by decide +kernel
theorem dX3_epilogue_36 : decode cX3_epilogue 36 = .ok (.iload_n 3, 1) := by decide +kernel
theorem dX3_epilogue_37 : decode cX3_epilogue 37 = .ok (.iload_n 2, 1) := by decide +kernel
theorem dX3_epilogue_38 : decode cX3_epilogue 38 = .ok (.if_icmp .gt 25, 3) := by decide +kernel
theorem dX3_epilogue_41 : decode cX3_epilogue 41 = .ok (.iload_n 1, 1) := by decide +kernel
theorem dX3_epilogue_42 : decode cX3_epilogue 42 = .ok (.aload_n 0, 1) := by decide +kernel
theorem dX3_epilogue_43 : decode cX3_epilogue 43 = .ok (.aload_n 0, 1) := by decide +kernel
theorem dX3_epilogue_44 : decode cX3_epilogue 44 = .ok (.invokevirtual 130, 3) := by decide +kernel
theorem dX3_epilogue_47 : decode cX3_epilogue 47 = .ok (.iconst 1, 1) := by decide +kernel
theorem dX3_epilogue_48 : decode cX3_epilogue 48 = .ok (.invokestatic 97, 3) := by decide +kernel
theorem dX3_epilogue_51 : decode cX3_epilogue 51 = .ok (.iload_n 3, 1) := by decide +kernel
theorem dX3_epilogue_52 : decode cX3_epilogue 52 = .ok (.invokevirtual 148, 3) := by decide +kernel
theorem dX3_epilogue_55 : decode cX3_epilogue 55 = .ok (.iadd, 1) := by decide +kernel
theorem dX3_epilogue_56 : decode cX3_epilogue 56 = .ok (.istore_n 1, 1) := by decide +kernel
theorem dX3_epilogue_57 : decode cX3_epilogue 57 = .ok (.iinc 3 1, 3) := by decide +kernel
theorem dX3_epilogue_60 : decode cX3_epilogue 60 = .ok (.goto (-24), 3) := by decide +kernel
theorem dX3_epilogue_63 : decode cX3_epilogue 63 = .ok (.iload_n 1, 1) := by decide +kernel
theorem dX3_epilogue_64 : decode cX3_epilogue 64 = .ok (.ireturn, 1) := by decide +kernel
theorem dX3_digest_0 : decode cX3_digest 0 = .ok (.aload_n 0, 1) := by decide +kernel
theorem dX3_digest_1 : decode cX3_digest 1 = .ok (.iconst 0, 1) := by decide +kernel
theorem dX3_digest_2 : decode cX3_digest 2 = .ok (.putfield 44, 3) := by decide +kernel
theorem dX3_digest_5 : decode cX3_digest 5 = .ok (.ldc2_w 154, 3) := by decide +kernel
theorem dX3_digest_8 : decode cX3_digest 8 = .ok (.lstore_n 1, 1) := by decide +kernel
theorem dX3_digest_9 : decode cX3_digest 9 = .ok (.iconst 0, 1) := by decide +kernel
theorem dX3_digest_10 : decode cX3_digest 10 = .ok (.istore_n 3, 1) := by decide +kernel
theorem dX3_digest_11 : decode cX3_digest 11 = .ok (.iload_n 3, 1) := by decide +kernel
theorem dX3_digest_12 : decode cX3_digest 12 = .ok (.iconst 3, 1) := by decide +kernel
theorem dX3_digest_13 : decode cX3_digest 13 = .ok (.if_icmp .ge 23, 3) := by decide +kernel
theorem dX3_digest_16 : decode cX3_digest 16 = .ok (.lload_n 1, 1) := by decide +kernel
theorem dX3_digest_17 : decode cX3_digest 17 = .ok (.ldc2_w 156, 3) := by decide +kernel
theorem dX3_digest_20 : decode cX3_digest 20 = .ok (.lmul, 1) := by decide +kernel
theorem dX3_digest_21 : decode cX3_digest 21 = .ok (.aload_n 0, 1) := by decide +kernel
theorem dX3_digest_22 : decode cX3_digest 22 = .ok (.getfield 7, 3) := by decide +kernel
theorem dX3_digest_25 : decode cX3_digest 25 = .ok (.iload_n 3, 1) := by decide +kernel
theorem dX3_digest_26 : decode cX3_digest 26 = .ok (.iaload, 1) := by decide +kernel
theorem dX3_digest_27 : decode cX3_digest 27 = .ok (.i2l, 1) := by decide +kernel
theorem dX3_digest_28 : decode cX3_digest 28 = .ok (.ladd, 1) := by decide +kernel
theorem dX3_digest_29 : decode cX3_digest 29 = .ok (.lstore_n 1, 1) := by decide +kernel
theorem dX3_digest_30 : decode cX3_digest 30 = .ok (.iinc 3 1, 3) := by decide +kernel
theorem dX3_digest_33 : decode cX3_digest 33 = .ok (.goto (-22), 3) := by decide +kernel
theorem dX3_digest_36 : decode cX3_digest 36 = .ok (.lload_n 1, 1) := by decide +kernel
theorem dX3_digest_37 : decode cX3_digest 37 = .ok (.ldc2_w 156, 3) := by decide +kernel
theorem dX3_digest_40 : decode cX3_digest 40 = .ok (.lmul, 1) := by decide +kernel
theorem dX3_digest_41 : decode cX3_digest 41 = .ok (.aload_n 0, 1) := by decide +kernel
theorem dX3_digest_42 : decode cX3_digest 42 = .ok (.getfield 48, 3) := by decide +kernel
theorem dX3_digest_45 : decode cX3_digest 45 = .ok (.i2l, 1) := by decide +kernel
theorem dX3_digest_46 : decode cX3_digest 46 = .ok (.ladd, 1) := by decide +kernel
theorem dX3_digest_47 : decode cX3_digest 47 = .ok (.lstore_n 1, 1) := by decide +kernel
theorem dX3_digest_48 : decode cX3_digest 48 = .ok (.iconst 0, 1) := by decide +kernel
theorem dX3_digest_49 : decode cX3_digest 49 = .ok (.istore_n 3, 1) := by decide +kernel
theorem dX3_digest_50 : decode cX3_digest 50 = .ok (.iload_n 3, 1) := by decide +kernel
theorem dX3_digest_51 : decode cX3_digest 51 = .ok (.aload_n 0, 1) := by decide +kernel
theorem dX3_digest_52 : decode cX3_digest 52 = .ok (.getfield 48, 3) := by decide +kernel
theorem dX3_digest_55 : decode cX3_digest 55 = .ok (.if_icmp .ge 35, 3) := by decide +kernel
theorem dX3_digest_58 : decode cX3_digest 58 = .ok (.lload_n 1, 1) := by decide +kernel
theorem dX3_digest_59 : decode cX3_digest 59 = .ok (.ldc2_w 156, 3) := by decide +kernel
theorem dX3_digest_62 : decode cX3_digest 62 = .ok (.lmul, 1) := by decide +kernel
theorem dX3_digest_63 : decode cX3_digest 63 = .ok (.aload_n 0, 1) := by decide +kernel
theorem dX3_digest_64 : decode cX3_digest 64 = .ok (.getfield 13, 3) := by decide +kernel
theorem dX3_digest_67 : decode cX3_digest 67 = .ok (.iload_n 3, 1) := by decide +kernel
theorem dX3_digest_68 : decode cX3_digest 68 = .ok (.iaload, 1) := by decide +kernel
theorem dX3_digest_69 : decode cX3_digest 69 = .ok (.i2l, 1) := by decide +kernel
theorem dX3_digest_70 : decode cX3_digest 70 = .ok (.ladd, 1) := by decide +kernel
theorem dX3_digest_71 : decode cX3_digest 71 = .ok (.ldc2_w 156, 3) := by decide +kernel
theorem dX3_digest_74 : decode cX3_digest 74 = .ok (.lmul, 1) := by decide +kernel
theorem dX3_digest_75 : decode cX3_digest 75 = .ok (.aload_n 0, 1) := by decide +kernel
theorem dX3_digest_76 : decode cX3_digest 76 = .ok (.getfield 16, 3) := by decide +kernel
theorem dX3_digest_79 : decode cX3_digest 79 = .ok (.iload_n 3, 1) := by decide +kernel
theorem dX3_digest_80 : decode cX3_digest 80 = .ok (.iaload, 1) := by decide +kernel
theorem dX3_digest_81 : decode cX3_digest 81 = .ok (.i2l, 1) := by decide +kernel
theorem dX3_digest_82 : decode cX3_digest 82 = .ok (.ladd, 1) := by decide +kernel
theorem dX3_digest_83 : decode cX3_digest 83 = .ok (.lstore_n 1, 1) := by decide +kernel
theorem dX3_digest_84 : decode cX3_digest 84 = .ok (.iinc 3 1, 3) := by decide +kernel
theorem dX3_digest_87 : decode cX3_digest 87 = .ok (.goto (-37), 3) := by decide +kernel
theorem dX3_digest_90 : decode cX3_digest 90 = .ok (.lload_n 1, 1) := by decide +kernel
theorem dX3_digest_91 : decode cX3_digest 91 = .ok (.ldc2_w 156, 3) := by decide +kernel
theorem dX3_digest_94 : decode cX3_digest 94 = .ok (.lmul, 1) := by decide +kernel
theorem dX3_digest_95 : decode cX3_digest 95 = .ok (.aload_n 0, 1) := by decide +kernel
theorem dX3_digest_96 : decode cX3_digest 96 = .ok (.getfield 66, 3) := by decide +kernel
theorem dX3_digest_99 : decode cX3_digest 99 = .ok (.i2l, 1) := by decide +kernel
theorem dX3_digest_100 : decode cX3_digest 100 = .ok (.ladd, 1) := by decide +kernel
theorem dX3_digest_101 : decode cX3_digest 101 = .ok (.lstore_n 1, 1) := by decide +kernel
theorem dX3_digest_102 : decode cX3_digest 102 = .ok (.iconst 0, 1) := by decide +kernel
theorem dX3_digest_103 : decode cX3_digest 103 = .ok (.istore_n 3, 1) := by decide +kernel
theorem dX3_digest_104 : decode cX3_digest 104 = .ok (.iload_n 3, 1) := by decide +kernel
theorem dX3_digest_105 : decode cX3_digest 105 = .ok (.aload_n 0, 1) := by decide +kernel
theorem dX3_digest_106 : decode cX3_digest 106 = .ok (.getfield 66, 3) := by decide +kernel
theorem dX3_digest_109 : decode cX3_digest 109 = .ok (.if_icmp .ge 59, 3) := by decide +kernel
theorem dX3_digest_112 : decode cX3_digest 112 = .ok (.lload_n 1, 1) := by decide +kernel
theorem dX3_digest_113 : decode cX3_digest 113 = .ok (.ldc2_w 156, 3) := by decide +kernel
theorem dX3_digest_116 : decode cX3_digest 116 = .ok (.lmul, 1) := by decide +kernel
theorem dX3_digest_117 : decode cX3_digest 117 = .ok (.aload_n 0, 1) := by decide +kernel
theorem dX3_digest_118 : decode cX3_digest 118 = .ok (.getfield 19, 3) := by decide +kernel
theorem dX3_digest_121 : decode cX3_digest 121 = .ok (.iload_n 3, 1) := by decide +kernel
theorem dX3_digest_122 : decode cX3_digest 122 = .ok (.iaload, 1) := by decide +kernel
theorem dX3_digest_123 : decode cX3_digest 123 = .ok (.i2l, 1) := by decide +kernel
theorem dX3_digest_124 : decode cX3_digest 124 = .ok (.ladd, 1) := by decide +kernel
theorem dX3_digest_125 : decode cX3_digest 125 = .ok (.ldc2_w 156, 3) := by decide +kernel
theorem dX3_digest_128 : decode cX3_digest 128 = .ok (.lmul, 1) := by decide +kernel
theorem dX3_digest_129 : decode cX3_digest 129 = .ok (.aload_n 0, 1) := by decide +kernel
theorem dX3_digest_130 : decode cX3_digest 130 = .ok (.getfield 22, 3) := by decide +kernel
theorem dX3_digest_133 : decode cX3_digest 133 = .ok (.iload_n 3, 1) := by decide +kernel
theorem dX3_digest_134 : decode cX3_digest 134 = .ok (.iaload, 1) := by decide +kernel
theorem dX3_digest_135 : decode cX3_digest 135 = .ok (.i2l, 1) := by decide +kernel
theorem dX3_digest_136 : decode cX3_digest 136 = .ok (.ladd, 1) := by decide +kernel
theorem dX3_digest_137 : decode cX3_digest 137 = .ok (.ldc2_w 156, 3) := by decide +kernel
theorem dX3_digest_140 : decode cX3_digest 140 = .ok (.lmul, 1) := by decide +kernel
theorem dX3_digest_141 : decode cX3_digest 141 = .ok (.aload_n 0, 1) := by decide +kernel
theorem dX3_digest_142 : decode cX3_digest 142 = .ok (.getfield 25, 3) := by decide +kernel
theorem dX3_digest_145 : decode cX3_digest 145 = .ok (.iload_n 3, 1) := by decide +kernel
theorem dX3_digest_146 : decode cX3_digest 146 = .ok (.iaload, 1) := by decide +kernel
theorem dX3_digest_147 : decode cX3_digest 147 = .ok (.i2l, 1) := by decide +kernel
theorem dX3_digest_148 : decode cX3_digest 148 = .ok (.ladd, 1) := by decide +kernel
theorem dX3_digest_149 : decode cX3_digest 149 = .ok (.ldc2_w 156, 3) := by decide +kernel
theorem dX3_digest_152 : decode cX3_digest 152 = .ok (.lmul, 1) := by decide +kernel
theorem dX3_digest_153 : decode cX3_digest 153 = .ok (.aload_n 0, 1) := by decide +kernel
theorem dX3_digest_154 : decode cX3_digest 154 = .ok (.getfield 28, 3) := by decide +kernel
theorem dX3_digest_157 : decode cX3_digest 157 = .ok (.iload_n 3, 1) := by decide +kernel
theorem dX3_digest_158 : decode cX3_digest 158 = .ok (.iaload, 1) := by decide +kernel
theorem dX3_digest_159 : decode cX3_digest 159 = .ok (.i2l, 1) := by decide +kernel
theorem dX3_digest_160 : decode cX3_digest 160 = .ok (.ladd, 1) := by decide +kernel
theorem dX3_digest_161 : decode cX3_digest 161 = .ok (.lstore_n 1, 1) := by decide +kernel
theorem dX3_digest_162 : decode cX3_digest 162 = .ok (.iinc 3 1, 3) := by decide +kernel
theorem dX3_digest_165 : decode cX3_digest 165 = .ok (.goto (-61), 3) := by decide +kernel
theorem dX3_digest_168 : decode cX3_digest 168 = .ok (.lload_n 1, 1) := by decide +kernel
theorem dX3_digest_169 : decode cX3_digest 169 = .ok (.ldc2_w 156, 3) := by decide +kernel
theorem dX3_digest_172 : decode cX3_digest 172 = .ok (.lmul, 1) := by decide +kernel
theorem dX3_digest_173 : decode cX3_digest 173 = .ok (.aload_n 0, 1) := by decide +kernel
theorem dX3_digest_174 : decode cX3_digest 174 = .ok (.getfield 59, 3) := by decide +kernel
theorem dX3_digest_177 : decode cX3_digest 177 = .ok (.i2l, 1) := by decide +kernel
theorem dX3_digest_178 : decode cX3_digest 178 = .ok (.ladd, 1) := by decide +kernel
theorem dX3_digest_179 : decode cX3_digest 179 = .ok (.lstore_n 1, 1) := by decide +kernel
theorem dX3_digest_180 : decode cX3_digest 180 = .ok (.iconst 0, 1) := by decide +kernel
theorem dX3_digest_181 : decode cX3_digest 181 = .ok (.istore_n 3, 1) := by decide +kernel
theorem dX3_digest_182 : decode cX3_digest 182 = .ok (.iload_n 3, 1) := by decide +kernel
theorem dX3_digest_183 : decode cX3_digest 183 = .ok (.aload_n 0, 1) := by decide +kernel
theorem dX3_digest_184 : decode cX3_digest 184 = .ok (.getfield 48, 3) := by decide +kernel
theorem dX3_digest_187 : decode cX3_digest 187 = .ok (.if_icmp .ge 30, 3) := by decide +kernel
theorem dX3_digest_190 : decode cX3_digest 190 = .ok (.aload_n 0, 1) := by decide +kernel
theorem dX3_digest_191 : decode cX3_digest 191 = .ok (.getfield 59, 3) := by decide +kernel
theorem dX3_digest_194 : decode cX3_digest 194 = .ok (.ifCond .le 23, 3) := by decide +kernel
theorem dX3_digest_197 : decode cX3_digest 197 = .ok (.lload_n 1, 1) := by decide +kernel
theorem dX3_digest_198 : decode cX3_digest 198 = .ok (.ldc2_w 156, 3) := by decide +kernel
theorem dX3_digest_201 : decode cX3_digest 201 = .ok (.lmul, 1) := by decide +kernel
theorem dX3_digest_202 : decode cX3_digest 202 = .ok (.aload_n 0, 1) := by decide +kernel
theorem dX3_digest_203 : decode cX3_digest 203 = .ok (.getfield 31, 3) := by decide +kernel
theorem dX3_digest_206 : decode cX3_digest 206 = .ok (.iload_n 3, 1) := by decide +kernel
theorem dX3_digest_207 : decode cX3_digest 207 = .ok (.iaload, 1) := by decide +kernel
theorem dX3_digest_208 : decode cX3_digest 208 = .ok (.i2l, 1) := by decide +kernel
theorem dX3_digest_209 : decode cX3_digest 209 = .ok (.ladd, 1) := by decide +kernel
theorem dX3_digest_210 : decode cX3_digest 210 = .ok (.lstore_n 1, 1) := by decide +kernel
theorem dX3_digest_211 : decode cX3_digest 211 = .ok (.iinc 3 1, 3) := by decide +kernel
theorem dX3_digest_214 : decode cX3_digest 214 = .ok (.goto (-32), 3) := by decide +kernel
theorem dX3_digest_217 : decode cX3_digest 217 = .ok (.lload_n 1, 1) := by decide +kernel
theorem dX3_digest_218 : decode cX3_digest 218 = .ok (.lreturn, 1) := by decide +kernel
end
section
/-! numbers: the ints of the machine as the numbers that they stand for -/
def iI (z : Int) : Int32 := Int32.ofInt z
def bI (b : Bool) : Int := if b = true then 1 else 0
theorem iI_add (a b : Int) : iI a + iI b = iI (a + b) := (Int32.ofInt_add a b).symm
theorem iI_sub (a b : Int) : iI a - iI b = iI (a - b) := (Int32.ofInt_sub a b).symm
theorem iI_mul (a b : Int) : iI a * iI b = iI (a * b) := (Int32.ofInt_mul a b).symm
theorem iI_toInt {z : Int} (h : -2147483648 ≤ z ∧ z < 2147483648) : (iI z).toInt = z := Int32.toInt_ofInt_of_le h.1 h.2
theorem iI_lt {a b : Int} (h : (-2147483648 ≤ a ∧ a < 2147483648) ∧ (-2147483648 ≤ b ∧ b < 2147483648)) : iI a < iI b ↔ a < b := by
  rw [Int32.lt_iff_toInt_lt, iI_toInt h.1, iI_toInt h.2]
theorem iI_le {a b : Int} (h : (-2147483648 ≤ a ∧ a < 2147483648) ∧ (-2147483648 ≤ b ∧ b < 2147483648)) : iI a ≤ iI b ↔ a ≤ b := by
  rw [Int32.le_iff_toInt_le, iI_toInt h.1, iI_toInt h.2]
theorem iI_eq {a b : Int} (h : (-2147483648 ≤ a ∧ a < 2147483648) ∧ (-2147483648 ≤ b ∧ b < 2147483648)) : iI a = iI b ↔ a = b := by
  rw [← Int32.toInt_inj, iI_toInt h.1, iI_toInt h.2]
theorem iI_cl {z : Int} (h : 0 ≤ z ∧ z < 2147483648) : (iI z).toNatClampNeg = z.toNat := by
  show (iI z).toInt.toNat = _
  rw [iI_toInt ⟨by omega, h.2⟩]
theorem iI_in {z : Int} {n : Nat} (h : 0 ≤ z ∧ z < (n : Int)) (hn : n < 2147483648) : vp_in (iI z) n := by
  rw [vp_in_iff, iI_toInt ⟨by omega, by omega⟩]
  exact h
theorem iI_tdiv {a b : Int} (h : (-2147483648 < a ∧ a < 2147483648) ∧ (-2147483648 < b ∧ b < 2147483648)) : iI a / iI b = iI (a.tdiv b) := by
  have h1 : (Int32.minValue).toInt = -2147483648 := by decide
  have h2 : (Int32.maxValue).toInt = 2147483647 := by decide
  exact (Int32.ofInt_tdiv (by omega) (by omega) (by omega) (by omega)).symm
theorem iI_div {a b : Int} (h : (0 ≤ a ∧ a < 2147483648) ∧ (0 < b ∧ b < 2147483648)) : iI a / iI b = iI (a / b) := by
  rw [iI_tdiv ⟨⟨by omega, h.1.2⟩, ⟨by omega, h.2.2⟩⟩, Int.tdiv_eq_ediv_of_nonneg h.1.1]
theorem iI_rem {a b : Int} (h : (0 ≤ a ∧ a < 2147483648) ∧ (0 < b ∧ b < 2147483648)) : iI a - iI a / iI b * iI b = iI (a % b) := by
  rw [iI_div h, iI_mul, iI_sub, Int.emod_def, Int.mul_comm (a / b) b]
theorem iI_nat (k : Nat) : iI (k : Int) = nI k := rfl
theorem iI_self (x : Int32) : iI x.toInt = x := Int32.ofInt_toInt x
theorem iI_of (x : Int32) : ∃ z : Int, x = iI z ∧ -2147483648 ≤ z ∧ z < 2147483648 := ⟨x.toInt, (iI_self x).symm, Int32.le_toInt x, Int32.toInt_lt x⟩
def aI (f : Nat → Int) : Nat → Int32 := fun j => iI (f j)
def upZ (f : Nat → Int) (k : Nat) (v : Int) : Nat → Int := fun j => if j = k then v else f j
def upN (f : Nat → Nat) (k v : Nat) : Nat → Nat := fun j => if j = k then v else f j
def nZ (f : Nat → Nat) : Nat → Int := fun j => (f j : Int)
theorem upZ_s (f : Nat → Int) (k : Nat) (v : Int) : upZ f k v k = v := if_pos rfl
theorem upZ_n (f : Nat → Int) {k j : Nat} (v : Int) (h : j ≠ k) : upZ f k v j = f j := if_neg h
theorem upN_s (f : Nat → Nat) (k v : Nat) : upN f k v k = v := if_pos rfl
theorem upN_n (f : Nat → Nat) {k j : Nat} (v : Nat) (h : j ≠ k) : upN f k v j = f j := if_neg h
theorem nZ_up (f : Nat → Nat) (k v : Nat) : nZ (upN f k v) = upZ (nZ f) k (v : Int) := by
  funext j
  unfold nZ upN upZ
  by_cases h : j = k
  · rw [if_pos h, if_pos h]
  · rw [if_neg h, if_neg h]
theorem upd_aI (f : Nat → Int) (k : Nat) (v : Int) : upd (aI f) k (iI v) = aI (upZ f k v) := by
  funext j
  unfold upd aI upZ
  by_cases h : j = k
  · rw [if_pos h, if_pos h]
  · rw [if_neg h, if_neg h]
theorem upd_aI' (f : Nat → Int) {z : Int} (h : 0 ≤ z ∧ z < 2147483648) (v : Int) : upd (aI f) (iI z).toNatClampNeg (iI v) = aI (upZ f z.toNat v) := by
  rw [iI_cl h, upd_aI]
def zPc (D : va_G) (tys : List (ClassId × FieldType)) (w0 : va_W) (av : List Value) (sz : Nat) : Array Value → State → Prop := va_Pc av (fun U => U.heap.size = sz ∧ va_P D vwCl w0 U.heap ∧ va_K D vwCl tys U ∧ va_D (fun _ => True) w0)
def zB (D : va_G) (tys : List (ClassId × FieldType)) (A : Nat → Prop) : va_W → State → Prop := fun w t => va_P D vwCl w t.heap ∧ va_K D vwCl tys t ∧ va_D A w
def zMi (l : Launch) (D : va_G) (tys : List (ClassId × FieldType)) (y : MethodName) (ws : List Cond) (f lo : Nat) (w0 : va_W) (av : List Value) (post : Int32 → va_W → Prop) : Prop := ∀ sz : Nat, Met l y ws ({ frames := f, cells := 0, slots := 0, locals := lo }) (zPc D tys w0 av sz) (va_Qi post (zB D tys (va_A w0 sz)) (va_A w0 sz)) 0 0 (va_A w0 sz)
def zMl (l : Launch) (D : va_G) (tys : List (ClassId × FieldType)) (y : MethodName) (ws : List Cond) (f lo : Nat) (w0 : va_W) (av : List Value) (post : Int64 → va_W → Prop) : Prop := ∀ sz : Nat, Met l y ws ({ frames := f, cells := 0, slots := 0, locals := lo }) (zPc D tys w0 av sz) (va_Ql post (zB D tys (va_A w0 sz)) (va_A w0 sz)) 0 0 (va_A w0 sz)
def zMv (l : Launch) (D : va_G) (tys : List (ClassId × FieldType)) (y : MethodName) (ws : List Cond) (f lo : Nat) (w0 : va_W) (av : List Value) (post : va_W → Prop) : Prop := ∀ sz : Nat, Met l y ws ({ frames := f, cells := 0, slots := 0, locals := lo }) (zPc D tys w0 av sz) (va_Qv post (zB D tys (va_A w0 sz)) (va_A w0 sz)) 0 0 (va_A w0 sz)
def zBody (l : Launch) (D : va_G) (tys : List (ClassId × FieldType)) (y : MethodName) (ws : List Cond) (rm : Room) (w0 : va_W) (av : List Value) (cc : ByteArray) (maxL : Nat) (ret : Option FieldType) (Qc : (Nat → Prop) → Array Value → State → Outcome → State → Prop) : Prop :=
  ∀ (p : Program) (e : Env) (s : State) (m : MethodId) (args : Array Value) (below : List Frame) (meth : Method) (c : Code) (A : Nat → Prop) (ls : Array Slot), p.tables.exec = Jvm.exec → c.code = cc → meth.sig.returnType = ret → (∀ w ∈ ws, w.before args s = true) → s.vm.findClass y.cls = some m.cls → meth.locks = false → c.maxLocals = maxL → va_P D vwCl w0 s.heap → va_K D vwCl tys s → va_D A w0 → va_S A s.heap s.heap [] → (∀ q : Nat, s.heap.size ≤ q → A q) → lv_has ls maxL (lv_args 0 av) → ∀ Q : State → Prop, Q = MQ below (Qc A) args s 0 0 A → W p l e rm s m args below meth c s.heap [] 0 0 Q (F0 m 0 ls [])
theorem z_of {l : Launch} {D : va_G} {tys : List (ClassId × FieldType)} {y : MethodName} {ws ws' : List Cond} {f lo : Nat} {w0 : va_W} {av : List Value} {cc : ByteArray} {maxL : Nat} {ret : Option FieldType} (Qc : (Nat → Prop) → Array Value → State → Outcome → State → Prop) (hy : plainName y.cls = true) (hw : ws = Cond.code y cc maxL ret :: ws') (hav : (lg_sl av).length ≤ maxL)
    (body : zBody l D tys y ws ({ frames := f, cells := 0, slots := 0, locals := lo }) w0 av cc maxL ret Qc) (sz : Nat) : Met l y ws ({ frames := f, cells := 0, slots := 0, locals := lo }) (zPc D tys w0 av sz) (Qc (va_A w0 sz)) 0 0 (va_A w0 sz) := by
  refine Met.ofW hy hw ?_
  intro p e s m args below meth c s₁ B hml hv
  obtain ⟨rfl, hsz, hP, hK, hD0⟩ := hv
  subst hsz
  rw [lg_entry_eq]
  exact body p e s m av.toArray below meth c (va_A w0 s.heap.size) _ B.exec B.bytes B.returns (atoms_spec (ws := ws) B.pre) (findClass_of_methodNamed B.named) B.notSynchronized hml hP hK hD0.self va_S.rf (fun q h => Or.inr h) (lv_entry av hav) _ rfl
theorem z_ofI {l : Launch} {D : va_G} {tys : List (ClassId × FieldType)} {y : MethodName} {ws ws' : List Cond} {f lo : Nat} {w0 : va_W} {av : List Value} {cc : ByteArray} {maxL : Nat} {ret : Option FieldType} {post : Int32 → va_W → Prop} (hy : plainName y.cls = true) (hw : ws = Cond.code y cc maxL ret :: ws') (hav : (lg_sl av).length ≤ maxL)
    (body : zBody l D tys y ws ({ frames := f, cells := 0, slots := 0, locals := lo }) w0 av cc maxL ret (fun A => va_Qi post (zB D tys A) A)) : zMi l D tys y ws f lo w0 av post := z_of (fun A => va_Qi post (zB D tys A) A) hy hw hav body
theorem z_ofL {l : Launch} {D : va_G} {tys : List (ClassId × FieldType)} {y : MethodName} {ws ws' : List Cond} {f lo : Nat} {w0 : va_W} {av : List Value} {cc : ByteArray} {maxL : Nat} {ret : Option FieldType} {post : Int64 → va_W → Prop} (hy : plainName y.cls = true) (hw : ws = Cond.code y cc maxL ret :: ws') (hav : (lg_sl av).length ≤ maxL)
    (body : zBody l D tys y ws ({ frames := f, cells := 0, slots := 0, locals := lo }) w0 av cc maxL ret (fun A => va_Ql post (zB D tys A) A)) : zMl l D tys y ws f lo w0 av post := z_of (fun A => va_Ql post (zB D tys A) A) hy hw hav body
theorem z_ofV {l : Launch} {D : va_G} {tys : List (ClassId × FieldType)} {y : MethodName} {ws ws' : List Cond} {f lo : Nat} {w0 : va_W} {av : List Value} {cc : ByteArray} {maxL : Nat} {ret : Option FieldType} {post : va_W → Prop} (hy : plainName y.cls = true) (hw : ws = Cond.code y cc maxL ret :: ws') (hav : (lg_sl av).length ≤ maxL)
    (body : zBody l D tys y ws ({ frames := f, cells := 0, slots := 0, locals := lo }) w0 av cc maxL ret (fun A => va_Qv post (zB D tys A) A)) : zMv l D tys y ws f lo w0 av post := z_of (fun A => va_Qv post (zB D tys A) A) hy hw hav body
section ZL
variable {p : Program} {l : Launch} {e : Env} {R : Room} {s : State} {m : MethodId} {args : Array Value} {below : List Frame} {meth : Method} {c : Code} {H : Heap} {locs : List Loc} {cells slots : Nat} {Q : State → Prop}
variable {cc : ByteArray} {pc : Nat} {ls : Array Slot} {rest st0 : List Value} {D : va_G} {cl : List vw_C} {A : Nat → Prop} {tys : List (ClassId × FieldType)} {w : va_W} {H0 : Heap} {ad : Nat} {av As : List Value}
theorem z_free (hD : va_D A w) (hS : va_S A H0 H locs) (hA : ∀ q : Nat, H0.size ≤ q → A q) : ∀ q : Nat, va_A w H.size q → A q := by
  intro q h
  rcases h with ⟨k, x, h⟩ | h
  · exact hD.2 k (q, x) h
  · exact hA q (Nat.le_trans hS.1 h)
theorem z_blind {sz : Nat} : FrameBlind (zPc D tys w av sz) := fun a U g mk q => by
  obtain ⟨q0, q1, qP, qK, qD⟩ := q
  exact ⟨q0, q1, qP, va_K.moved (u := U) (U := U.calling g mk a) (Vm.Alike.refl U.vm) qK, qD⟩
theorem z_preS (hK : va_K D vwCl tys s) (hP : va_P D vwCl w H) (hD : va_D A w) : PreS s H (zPc D tys w av H.size) av :=
  ⟨z_blind, fun U hU hW => ⟨rfl, by rw [hU], by rw [hU]; exact hP, va_K.moved hW.alike hK, hD.weaken (fun _ _ _ _ => trivial)⟩⟩
theorem z_preV {C : String} {T : u_T} {N b ci : Nat} {fs : List Value} (q0 : Nat) (hK : va_K D vwCl tys s) (hP : va_P D vwCl w H) (hD : va_D A w) (hc : vwCl[ci]? = some (C, T, N)) (he : w[q0]? = some (b, .inr (ci, fs))) : PreV s H C b (zPc D tys w (.ref b :: As) H.size) As :=
  ⟨z_blind, va_recv hK hP hc he, fun U hU hW => ⟨rfl, by rw [hU], by rw [hU]; exact hP, va_K.moved hW.alike hK, hD.weaken (fun _ _ _ _ => trivial)⟩⟩
theorem z_calli {post : Int32 → va_W → Prop} {a : Array Value} (hr : va_Run p l e R s m args below meth c H locs cells slots 0 0 (F0 m pc ls st0) rest (va_Qi post (zB D tys (va_A w H.size)) (va_A w H.size) a) (va_A w H.size)) (hS : va_S A H0 H locs) (hD : va_D A w) (hA : ∀ q : Nat, H0.size ≤ q → A q)
    (kk : ∀ (r : Int32) (w1 : va_W) (H1 : Heap) (locs1 : List Loc), post r w1 → va_P D vwCl w1 H1 → va_D A w1 → va_S A H0 H1 locs1 → W p l e R s m args below meth c H1 locs1 cells slots Q (F0 m (pc + 3) ls (.int r :: rest))) : W p l e R s m args below meth c H locs cells slots Q (F0 m pc ls st0) :=
  va_calli hr hS (fun q _ h => z_free hD hS hA q h) (fun q h => z_free hD hS hA q h) (fun r u t H1 locs1 ht _ hp hB _ _ hS1 => kk r u H1 locs1 hp (ht ▸ hB.1) (hB.2.2.weaken (fun _ q _ h => z_free hD hS hA q.1 h)) hS1)
theorem z_calll {post : Int64 → va_W → Prop} {a : Array Value} (hr : va_Run p l e R s m args below meth c H locs cells slots 0 0 (F0 m pc ls st0) rest (va_Ql post (zB D tys (va_A w H.size)) (va_A w H.size) a) (va_A w H.size)) (hS : va_S A H0 H locs) (hD : va_D A w) (hA : ∀ q : Nat, H0.size ≤ q → A q)
    (kk : ∀ (r : Int64) (w1 : va_W) (H1 : Heap) (locs1 : List Loc), post r w1 → va_P D vwCl w1 H1 → va_D A w1 → va_S A H0 H1 locs1 → W p l e R s m args below meth c H1 locs1 cells slots Q (F0 m (pc + 3) ls (.long r :: rest))) : W p l e R s m args below meth c H locs cells slots Q (F0 m pc ls st0) :=
  va_calll hr hS (fun q _ h => z_free hD hS hA q h) (fun q h => z_free hD hS hA q h) (fun r u t H1 locs1 ht _ hp hB _ _ hS1 => kk r u H1 locs1 hp (ht ▸ hB.1) (hB.2.2.weaken (fun _ q _ h => z_free hD hS hA q.1 h)) hS1)
theorem z_callv {post : va_W → Prop} {a : Array Value} (hr : va_Run p l e R s m args below meth c H locs cells slots 0 0 (F0 m pc ls st0) rest (va_Qv post (zB D tys (va_A w H.size)) (va_A w H.size) a) (va_A w H.size)) (hS : va_S A H0 H locs) (hD : va_D A w) (hA : ∀ q : Nat, H0.size ≤ q → A q)
    (kk : ∀ (w1 : va_W) (H1 : Heap) (locs1 : List Loc), post w1 → va_P D vwCl w1 H1 → va_D A w1 → va_S A H0 H1 locs1 → W p l e R s m args below meth c H1 locs1 cells slots Q (F0 m (pc + 3) ls rest)) : W p l e R s m args below meth c H locs cells slots Q (F0 m pc ls st0) :=
  va_callv hr hS (fun q _ h => z_free hD hS hA q h) (fun q h => z_free hD hS hA q h) (fun u t H1 locs1 ht _ hp hB _ _ hS1 => kk u H1 locs1 hp (ht ▸ hB.1) (hB.2.2.weaken (fun _ q _ h => z_free hD hS hA q.1 h)) hS1)
theorem z_iret {post : Int32 → va_W → Prop} {v : Int32} (hQ : Q = MQ below (va_Qi post (zB D tys A) A) args s 0 0 A) (hx : p.tables.exec = Jvm.exec) (hb : c.code = cc) (hr : meth.sig.returnType = some .int) (hlocks : meth.locks = false) (hp : post v w) (hK : va_K D vwCl tys s) (hP : va_P D vwCl w H) (hD : va_D A w) (hS : va_S A s.heap H locs) (hdg : decode cc pc = .ok (.ireturn, 1)) : W p l e R s m args below meth c H locs 0 0 Q (F0 m pc ls [.int v]) :=
  hQ ▸ W.iret hx hb hr (fun t ht hW => ⟨⟨v, w, rfl, hp, by rw [ht]; exact hP, va_K.moved hW.alike hK, hD⟩, hS.F ht⟩) hS.2.2 hdg hlocks
theorem z_lret {post : Int64 → va_W → Prop} {v : Int64} (hQ : Q = MQ below (va_Ql post (zB D tys A) A) args s 0 0 A) (hx : p.tables.exec = Jvm.exec) (hb : c.code = cc) (hr : meth.sig.returnType = some .long) (hlocks : meth.locks = false) (hp : post v w) (hK : va_K D vwCl tys s) (hP : va_P D vwCl w H) (hD : va_D A w) (hS : va_S A s.heap H locs) (hdg : decode cc pc = .ok (.lreturn, 1)) : W p l e R s m args below meth c H locs 0 0 Q (F0 m pc ls [.long v]) :=
  hQ ▸ W.lret hx hb hr (fun t ht hW => ⟨⟨v, w, rfl, hp, by rw [ht]; exact hP, va_K.moved hW.alike hK, hD⟩, hS.F ht⟩) hS.2.2 hdg hlocks
theorem z_vret {post : va_W → Prop} (hQ : Q = MQ below (va_Qv post (zB D tys A) A) args s 0 0 A) (hx : p.tables.exec = Jvm.exec) (hb : c.code = cc) (hr : meth.sig.returnType = none) (hlocks : meth.locks = false) (hp : post w) (hK : va_K D vwCl tys s) (hP : va_P D vwCl w H) (hD : va_D A w) (hS : va_S A s.heap H locs) (hdg : decode cc pc = .ok (.return_, 1)) : W p l e R s m args below meth c H locs 0 0 Q (F0 m pc ls []) :=
  hQ ▸ W.vret hx hb hr (fun t ht hW => ⟨⟨w, rfl, hp, by rw [ht]; exact hP, va_K.moved hW.alike hK, hD⟩, hS.F ht⟩) hS.2.2 hdg hlocks
theorem z_nb0 : narrow .boolean (.int (iI 0)) = .int (iI 0) := by decide
theorem z_nb1 : narrow .boolean (.int (iI 1)) = .int (iI 1) := by decide
theorem z_nb (b : Bool) : narrow .boolean (.int (iI (bI b))) = .int (iI (bI b)) := by cases b <;> decide
theorem z_zret {post : Int32 → va_W → Prop} {v : Int32} (hn : narrow .boolean (.int v) = .int v) (hQ : Q = MQ below (va_Qi post (zB D tys A) A) args s 0 0 A) (hx : p.tables.exec = Jvm.exec) (hb : c.code = cc) (hr : meth.sig.returnType = some .boolean) (hlocks : meth.locks = false) (hp : post v w) (hK : va_K D vwCl tys s) (hP : va_P D vwCl w H) (hD : va_D A w) (hS : va_S A s.heap H locs) (hdg : decode cc pc = .ok (.ireturn, 1)) : W p l e R s m args below meth c H locs 0 0 Q (F0 m pc ls [.int v]) :=
  hQ ▸ W.zret hx hb hr hn (fun t ht hW => ⟨⟨v, w, rfl, hp, by rw [ht]; exact hP, va_K.moved hW.alike hK, hD⟩, hS.F ht⟩) hS.2.2 hdg hlocks
theorem z_ic (hx : p.tables.exec = Jvm.exec) (hb : c.code = cc) {n : Int} (hdg : decode cc pc = .ok (.iconst n, 1)) (k : W p l e R s m args below meth c H locs cells slots Q (F0 m (pc + 1) ls (.int (iI n) :: rest))) : W p l e R s m args below meth c H locs cells slots Q (F0 m pc ls rest) := lv_iconst (v := iI n) hx hb hdg rfl k
theorem z_bip (hx : p.tables.exec = Jvm.exec) (hb : c.code = cc) {n : Int} (hdg : decode cc pc = .ok (.bipush n, 2)) (hv : (Int8.ofInt n).toInt32 = iI n) (k : W p l e R s m args below meth c H locs cells slots Q (F0 m (pc + 2) ls (.int (iI n) :: rest))) : W p l e R s m args below meth c H locs cells slots Q (F0 m pc ls rest) := lv_bipush (v := iI n) hx hb hdg hv k
theorem z_sip (hx : p.tables.exec = Jvm.exec) (hb : c.code = cc) {n : Int} (hdg : decode cc pc = .ok (.sipush n, 3)) (hv : (Int16.ofInt n).toInt32 = iI n) (k : W p l e R s m args below meth c H locs cells slots Q (F0 m (pc + 3) ls (.int (iI n) :: rest))) : W p l e R s m args below meth c H locs cells slots Q (F0 m pc ls rest) := lv_sipush (v := iI n) hx hb hdg hv k
theorem z_eqI {x y : Int32} (h : x = y) (k : W p l e R s m args below meth c H locs cells slots Q (F0 m pc ls (.int y :: rest))) : W p l e R s m args below meth c H locs cells slots Q (F0 m pc ls (.int x :: rest)) := h ▸ k
theorem z_eqL {x y : Int64} (h : x = y) (k : W p l e R s m args below meth c H locs cells slots Q (F0 m pc ls (.long y :: rest))) : W p l e R s m args below meth c H locs cells slots Q (F0 m pc ls (.long x :: rest)) := h ▸ k
theorem z_add (hx : p.tables.exec = Jvm.exec) (hb : c.code = cc) {a b : Int} (hdg : decode cc pc = .ok (.iadd, 1)) (k : W p l e R s m args below meth c H locs cells slots Q (F0 m (pc + 1) ls (.int (iI (a + b)) :: rest))) : W p l e R s m args below meth c H locs cells slots Q (F0 m pc ls (.int (iI b) :: .int (iI a) :: rest)) := lv_iadd hx hb hdg (z_eqI (iI_add a b) k)
theorem z_sub (hx : p.tables.exec = Jvm.exec) (hb : c.code = cc) {a b : Int} (hdg : decode cc pc = .ok (.isub, 1)) (k : W p l e R s m args below meth c H locs cells slots Q (F0 m (pc + 1) ls (.int (iI (a - b)) :: rest))) : W p l e R s m args below meth c H locs cells slots Q (F0 m pc ls (.int (iI b) :: .int (iI a) :: rest)) := lv_isub hx hb hdg (z_eqI (iI_sub a b) k)
theorem z_mul (hx : p.tables.exec = Jvm.exec) (hb : c.code = cc) {a b : Int} (hdg : decode cc pc = .ok (.imul, 1)) (k : W p l e R s m args below meth c H locs cells slots Q (F0 m (pc + 1) ls (.int (iI (a * b)) :: rest))) : W p l e R s m args below meth c H locs cells slots Q (F0 m pc ls (.int (iI b) :: .int (iI a) :: rest)) := lv_imul hx hb hdg (z_eqI (iI_mul a b) k)
theorem z_ne0 {b : Int} (h : 0 < b ∧ b < 2147483648) : ¬ iI b = 0 := fun q => by
  have h0 : iI 0 = 0 := by decide
  have := (iI_eq (a := b) (b := 0) ⟨⟨by omega, h.2⟩, ⟨by decide, by decide⟩⟩).mp (q.trans h0.symm)
  omega
theorem z_div (hx : p.tables.exec = Jvm.exec) (hb : c.code = cc) {a b : Int} (h : (0 ≤ a ∧ a < 2147483648) ∧ (0 < b ∧ b < 2147483648)) (hdg : decode cc pc = .ok (.idiv, 1)) (k : W p l e R s m args below meth c H locs cells slots Q (F0 m (pc + 1) ls (.int (iI (a / b)) :: rest))) : W p l e R s m args below meth c H locs cells slots Q (F0 m pc ls (.int (iI b) :: .int (iI a) :: rest)) := lv_idiv hx hb hdg (z_ne0 h.2) (z_eqI (iI_div h) k)
theorem z_rem (hx : p.tables.exec = Jvm.exec) (hb : c.code = cc) {a b : Int} (h : (0 ≤ a ∧ a < 2147483648) ∧ (0 < b ∧ b < 2147483648)) (hdg : decode cc pc = .ok (.irem, 1)) (k : W p l e R s m args below meth c H locs cells slots Q (F0 m (pc + 1) ls (.int (iI (a % b)) :: rest))) : W p l e R s m args below meth c H locs cells slots Q (F0 m pc ls (.int (iI b) :: .int (iI a) :: rest)) := lv_irem hx hb hdg (z_ne0 h.2) (z_eqI (iI_rem h) k)
theorem z_iceq (hx : p.tables.exec = Jvm.exec) (hb : c.code = cc) {a b off : Int} {tgt : Nat} (hdg : decode cc pc = .ok (.if_icmp .eq off, 3)) (ht : (pc : Int) + off = (tgt : Int)) (h : (-2147483648 ≤ a ∧ a < 2147483648) ∧ (-2147483648 ≤ b ∧ b < 2147483648)) (kt : a = b → W p l e R s m args below meth c H locs cells slots Q (F0 m tgt ls rest)) (kf : ¬ (a = b) → W p l e R s m args below meth c H locs cells slots Q (F0 m (pc + 3) ls rest)) : W p l e R s m args below meth c H locs cells slots Q (F0 m pc ls (.int (iI b) :: .int (iI a) :: rest)) := lv_icmp_eq hx hb hdg ht (fun q => kt ((iI_eq h).mp q)) (fun q => kf (fun r => q ((iI_eq h).mpr r)))
theorem z_icne (hx : p.tables.exec = Jvm.exec) (hb : c.code = cc) {a b off : Int} {tgt : Nat} (hdg : decode cc pc = .ok (.if_icmp .ne off, 3)) (ht : (pc : Int) + off = (tgt : Int)) (h : (-2147483648 ≤ a ∧ a < 2147483648) ∧ (-2147483648 ≤ b ∧ b < 2147483648)) (kt : ¬ a = b → W p l e R s m args below meth c H locs cells slots Q (F0 m tgt ls rest)) (kf : a = b → W p l e R s m args below meth c H locs cells slots Q (F0 m (pc + 3) ls rest)) : W p l e R s m args below meth c H locs cells slots Q (F0 m pc ls (.int (iI b) :: .int (iI a) :: rest)) := lv_icmp_ne hx hb hdg ht (fun q => kt (fun r => q ((iI_eq h).mpr r))) (fun q => kf ((iI_eq h).mp q))
theorem z_iclt (hx : p.tables.exec = Jvm.exec) (hb : c.code = cc) {a b off : Int} {tgt : Nat} (hdg : decode cc pc = .ok (.if_icmp .lt off, 3)) (ht : (pc : Int) + off = (tgt : Int)) (h : (-2147483648 ≤ a ∧ a < 2147483648) ∧ (-2147483648 ≤ b ∧ b < 2147483648)) (kt : a < b → W p l e R s m args below meth c H locs cells slots Q (F0 m tgt ls rest)) (kf : ¬ (a < b) → W p l e R s m args below meth c H locs cells slots Q (F0 m (pc + 3) ls rest)) : W p l e R s m args below meth c H locs cells slots Q (F0 m pc ls (.int (iI b) :: .int (iI a) :: rest)) := lv_icmp_lt hx hb hdg ht (fun q => kt ((iI_lt h).mp q)) (fun q => kf (fun r => q ((iI_lt h).mpr r)))
theorem z_icge (hx : p.tables.exec = Jvm.exec) (hb : c.code = cc) {a b off : Int} {tgt : Nat} (hdg : decode cc pc = .ok (.if_icmp .ge off, 3)) (ht : (pc : Int) + off = (tgt : Int)) (h : (-2147483648 ≤ a ∧ a < 2147483648) ∧ (-2147483648 ≤ b ∧ b < 2147483648)) (kt : b ≤ a → W p l e R s m args below meth c H locs cells slots Q (F0 m tgt ls rest)) (kf : ¬ (b ≤ a) → W p l e R s m args below meth c H locs cells slots Q (F0 m (pc + 3) ls rest)) : W p l e R s m args below meth c H locs cells slots Q (F0 m pc ls (.int (iI b) :: .int (iI a) :: rest)) := lv_icmp_ge hx hb hdg ht (fun q => kt ((iI_le ⟨h.2, h.1⟩).mp q)) (fun q => kf (fun r => q ((iI_le ⟨h.2, h.1⟩).mpr r)))
theorem z_icgt (hx : p.tables.exec = Jvm.exec) (hb : c.code = cc) {a b off : Int} {tgt : Nat} (hdg : decode cc pc = .ok (.if_icmp .gt off, 3)) (ht : (pc : Int) + off = (tgt : Int)) (h : (-2147483648 ≤ a ∧ a < 2147483648) ∧ (-2147483648 ≤ b ∧ b < 2147483648)) (kt : b < a → W p l e R s m args below meth c H locs cells slots Q (F0 m tgt ls rest)) (kf : ¬ (b < a) → W p l e R s m args below meth c H locs cells slots Q (F0 m (pc + 3) ls rest)) : W p l e R s m args below meth c H locs cells slots Q (F0 m pc ls (.int (iI b) :: .int (iI a) :: rest)) := lv_icmp_gt hx hb hdg ht (fun q => kt ((iI_lt ⟨h.2, h.1⟩).mp q)) (fun q => kf (fun r => q ((iI_lt ⟨h.2, h.1⟩).mpr r)))
theorem z_icle (hx : p.tables.exec = Jvm.exec) (hb : c.code = cc) {a b off : Int} {tgt : Nat} (hdg : decode cc pc = .ok (.if_icmp .le off, 3)) (ht : (pc : Int) + off = (tgt : Int)) (h : (-2147483648 ≤ a ∧ a < 2147483648) ∧ (-2147483648 ≤ b ∧ b < 2147483648)) (kt : a ≤ b → W p l e R s m args below meth c H locs cells slots Q (F0 m tgt ls rest)) (kf : ¬ (a ≤ b) → W p l e R s m args below meth c H locs cells slots Q (F0 m (pc + 3) ls rest)) : W p l e R s m args below meth c H locs cells slots Q (F0 m pc ls (.int (iI b) :: .int (iI a) :: rest)) := lv_icmp_le hx hb hdg ht (fun q => kt ((iI_le h).mp q)) (fun q => kf (fun r => q ((iI_le h).mpr r)))
theorem z_ifeq (hx : p.tables.exec = Jvm.exec) (hb : c.code = cc) {a off : Int} {tgt : Nat} (hdg : decode cc pc = .ok (.ifCond .eq off, 3)) (ht : (pc : Int) + off = (tgt : Int)) (h : -2147483648 ≤ a ∧ a < 2147483648) (kt : a = 0 → W p l e R s m args below meth c H locs cells slots Q (F0 m tgt ls rest)) (kf : ¬ (a = 0) → W p l e R s m args below meth c H locs cells slots Q (F0 m (pc + 3) ls rest)) : W p l e R s m args below meth c H locs cells slots Q (F0 m pc ls (.int (iI a) :: rest)) := lv_if_eq hx hb hdg ht (fun q => kt ((iI_eq (b := 0) ⟨h, by decide, by decide⟩).mp q)) (fun q => kf (fun r => q ((iI_eq (b := 0) ⟨h, by decide, by decide⟩).mpr r)))
theorem z_ifne (hx : p.tables.exec = Jvm.exec) (hb : c.code = cc) {a off : Int} {tgt : Nat} (hdg : decode cc pc = .ok (.ifCond .ne off, 3)) (ht : (pc : Int) + off = (tgt : Int)) (h : -2147483648 ≤ a ∧ a < 2147483648) (kt : ¬ a = 0 → W p l e R s m args below meth c H locs cells slots Q (F0 m tgt ls rest)) (kf : a = 0 → W p l e R s m args below meth c H locs cells slots Q (F0 m (pc + 3) ls rest)) : W p l e R s m args below meth c H locs cells slots Q (F0 m pc ls (.int (iI a) :: rest)) := lv_if_ne hx hb hdg ht (fun q => kt (fun r => q ((iI_eq (b := 0) ⟨h, by decide, by decide⟩).mpr r))) (fun q => kf ((iI_eq (b := 0) ⟨h, by decide, by decide⟩).mp q))
theorem z_iflt (hx : p.tables.exec = Jvm.exec) (hb : c.code = cc) {a off : Int} {tgt : Nat} (hdg : decode cc pc = .ok (.ifCond .lt off, 3)) (ht : (pc : Int) + off = (tgt : Int)) (h : -2147483648 ≤ a ∧ a < 2147483648) (kt : a < 0 → W p l e R s m args below meth c H locs cells slots Q (F0 m tgt ls rest)) (kf : ¬ (a < 0) → W p l e R s m args below meth c H locs cells slots Q (F0 m (pc + 3) ls rest)) : W p l e R s m args below meth c H locs cells slots Q (F0 m pc ls (.int (iI a) :: rest)) := lv_if_lt hx hb hdg ht (fun q => kt ((iI_lt (b := 0) ⟨h, by decide, by decide⟩).mp q)) (fun q => kf (fun r => q ((iI_lt (b := 0) ⟨h, by decide, by decide⟩).mpr r)))
theorem z_ifge (hx : p.tables.exec = Jvm.exec) (hb : c.code = cc) {a off : Int} {tgt : Nat} (hdg : decode cc pc = .ok (.ifCond .ge off, 3)) (ht : (pc : Int) + off = (tgt : Int)) (h : -2147483648 ≤ a ∧ a < 2147483648) (kt : 0 ≤ a → W p l e R s m args below meth c H locs cells slots Q (F0 m tgt ls rest)) (kf : ¬ (0 ≤ a) → W p l e R s m args below meth c H locs cells slots Q (F0 m (pc + 3) ls rest)) : W p l e R s m args below meth c H locs cells slots Q (F0 m pc ls (.int (iI a) :: rest)) := lv_if_ge hx hb hdg ht (fun q => kt ((iI_le (a := 0) ⟨⟨by decide, by decide⟩, h⟩).mp q)) (fun q => kf (fun r => q ((iI_le (a := 0) ⟨⟨by decide, by decide⟩, h⟩).mpr r)))
theorem z_ifgt (hx : p.tables.exec = Jvm.exec) (hb : c.code = cc) {a off : Int} {tgt : Nat} (hdg : decode cc pc = .ok (.ifCond .gt off, 3)) (ht : (pc : Int) + off = (tgt : Int)) (h : -2147483648 ≤ a ∧ a < 2147483648) (kt : 0 < a → W p l e R s m args below meth c H locs cells slots Q (F0 m tgt ls rest)) (kf : ¬ (0 < a) → W p l e R s m args below meth c H locs cells slots Q (F0 m (pc + 3) ls rest)) : W p l e R s m args below meth c H locs cells slots Q (F0 m pc ls (.int (iI a) :: rest)) := lv_if_gt hx hb hdg ht (fun q => kt ((iI_lt (a := 0) ⟨⟨by decide, by decide⟩, h⟩).mp q)) (fun q => kf (fun r => q ((iI_lt (a := 0) ⟨⟨by decide, by decide⟩, h⟩).mpr r)))
theorem z_ifle (hx : p.tables.exec = Jvm.exec) (hb : c.code = cc) {a off : Int} {tgt : Nat} (hdg : decode cc pc = .ok (.ifCond .le off, 3)) (ht : (pc : Int) + off = (tgt : Int)) (h : -2147483648 ≤ a ∧ a < 2147483648) (kt : a ≤ 0 → W p l e R s m args below meth c H locs cells slots Q (F0 m tgt ls rest)) (kf : ¬ (a ≤ 0) → W p l e R s m args below meth c H locs cells slots Q (F0 m (pc + 3) ls rest)) : W p l e R s m args below meth c H locs cells slots Q (F0 m pc ls (.int (iI a) :: rest)) := lv_if_le hx hb hdg ht (fun q => kt ((iI_le (b := 0) ⟨h, by decide, by decide⟩).mp q)) (fun q => kf (fun r => q ((iI_le (b := 0) ⟨h, by decide, by decide⟩).mpr r)))
theorem z_iinc (hx : p.tables.exec = Jvm.exec) (hb : c.code = cc) {i nL : Nat} (k : Nat) {n a b : Int} {lv lv' : List (Nat × Value)} (hdg : decode cc pc = .ok (.iinc i n, 3)) (h : lv_has ls nL lv) (hk : lv[k]? = some (i, .int (iI a))) (hv : a + n = b) (hn : i < nL) (hl : (i, Value.int (iI b)) :: lv.filter (fun q => !(q.1 == i) && !(q.1 + 1 == i && q.2.category == 2)) = lv') (kk : ∀ ls' : Array Slot, lv_has ls' nL lv' → W p l e R s m args below meth c H locs cells slots Q (F0 m (pc + 3) ls' rest)) : W p l e R s m args below meth c H locs cells slots Q (F0 m pc ls rest) := lv_iinc hx hb hdg h hk (by subst hv; exact iI_add a n) hn hl kk
theorem z_iald (hx : p.tables.exec = Jvm.exec) (hb : c.code = cc) (hK : va_K D cl tys s) (hP : va_P D cl w H) (q0 t0 : Nat) {cA : ClassId} {n : Nat} {f : Nat → Int} (ha : w[q0]? = some (ad, .inl (cA, n, .inl (aI f)))) (ht : tys[t0]? = some (cA, .int)) {z : Int} (h : 0 ≤ z ∧ z < (n : Int)) (hn : n < 2147483648) (hdg : decode cc pc = .ok (.iaload, 1)) (k : W p l e R s m args below meth c H locs cells slots Q (F0 m (pc + 1) ls (.int (iI (f z.toNat)) :: rest))) : W p l e R s m args below meth c H locs cells slots Q (F0 m pc ls (.int (iI z) :: .ref ad :: rest)) := by
  refine va_iald hx hb hK hP q0 t0 ha ht (iI_in h hn) hdg ?_
  rw [iI_cl ⟨h.1, by omega⟩]
  exact k
theorem z_ialdN (hx : p.tables.exec = Jvm.exec) (hb : c.code = cc) (hK : va_K D cl tys s) (hP : va_P D cl w H) (q0 t0 : Nat) {cA : ClassId} {n : Nat} {f : Nat → Int} (ha : w[q0]? = some (ad, .inl (cA, n, .inl (aI f)))) (ht : tys[t0]? = some (cA, .int)) {z : Nat} (h : z < n) (hn : n < 2147483648) (hdg : decode cc pc = .ok (.iaload, 1)) (k : W p l e R s m args below meth c H locs cells slots Q (F0 m (pc + 1) ls (.int (iI (f z)) :: rest))) : W p l e R s m args below meth c H locs cells slots Q (F0 m pc ls (.int (iI (z : Int)) :: .ref ad :: rest)) := z_iald hx hb hK hP q0 t0 ha ht (z := (z : Int)) (by omega) hn hdg k
theorem z_iast (hx : p.tables.exec = Jvm.exec) (hb : c.code = cc) (hK : va_K D cl tys s) (hP : va_P D cl w H) (hD : va_D A w) (hS : va_S A H0 H locs) (q0 t0 : Nat) {cA : ClassId} {n : Nat} {f : Nat → Int} (ha : w[q0]? = some (ad, .inl (cA, n, .inl (aI f)))) (ht : tys[t0]? = some (cA, .int)) {z v : Int} (h : 0 ≤ z ∧ z < (n : Int)) (hn : n < 2147483648) (hdg : decode cc pc = .ok (.iastore, 1)) (k : ∀ (H1 : Heap) (locs1 : List Loc), va_P D cl (w.set q0 (ad, .inl (cA, n, .inl (aI (upZ f z.toNat v))))) H1 → va_D A (w.set q0 (ad, .inl (cA, n, .inl (aI (upZ f z.toNat v))))) → va_S A H0 H1 locs1 → W p l e R s m args below meth c H1 locs1 cells slots Q (F0 m (pc + 1) ls rest)) : W p l e R s m args below meth c H locs cells slots Q (F0 m pc ls (.int (iI v) :: .int (iI z) :: .ref ad :: rest)) := by
  refine va_iast hx hb hK hP hD hS q0 t0 ha ht (iI_in h hn) hdg ?_
  rw [upd_aI' f ⟨h.1, by omega⟩ v]
  exact k
theorem z_iastN (hx : p.tables.exec = Jvm.exec) (hb : c.code = cc) (hK : va_K D cl tys s) (hP : va_P D cl w H) (hD : va_D A w) (hS : va_S A H0 H locs) (q0 t0 : Nat) {cA : ClassId} {n : Nat} {f : Nat → Int} (ha : w[q0]? = some (ad, .inl (cA, n, .inl (aI f)))) (ht : tys[t0]? = some (cA, .int)) {z : Nat} {v : Int} (h : z < n) (hn : n < 2147483648) (hdg : decode cc pc = .ok (.iastore, 1)) (k : ∀ (H1 : Heap) (locs1 : List Loc), va_P D cl (w.set q0 (ad, .inl (cA, n, .inl (aI (upZ f z v))))) H1 → va_D A (w.set q0 (ad, .inl (cA, n, .inl (aI (upZ f z v))))) → va_S A H0 H1 locs1 → W p l e R s m args below meth c H1 locs1 cells slots Q (F0 m (pc + 1) ls rest)) : W p l e R s m args below meth c H locs cells slots Q (F0 m pc ls (.int (iI v) :: .int (iI (z : Int)) :: .ref ad :: rest)) := z_iast hx hb hK hP hD hS q0 t0 ha ht (z := (z : Int)) (by omega) hn hdg k
theorem z_ialdZ (hx : p.tables.exec = Jvm.exec) (hb : c.code = cc) (hK : va_K D cl tys s) (hP : va_P D cl w H) (q0 t0 : Nat) {cA : ClassId} {n : Nat} {f : Nat → Nat} (ha : w[q0]? = some (ad, .inl (cA, n, .inl (aI (nZ f))))) (ht : tys[t0]? = some (cA, .int)) {z : Nat} (h : z < n) (hn : n < 2147483648) (hdg : decode cc pc = .ok (.iaload, 1)) (k : W p l e R s m args below meth c H locs cells slots Q (F0 m (pc + 1) ls (.int (iI ((f z : Nat) : Int)) :: rest))) : W p l e R s m args below meth c H locs cells slots Q (F0 m pc ls (.int (iI (z : Int)) :: .ref ad :: rest)) := z_ialdN hx hb hK hP q0 t0 ha ht h hn hdg k
theorem z_iastZ (hx : p.tables.exec = Jvm.exec) (hb : c.code = cc) (hK : va_K D cl tys s) (hP : va_P D cl w H) (hD : va_D A w) (hS : va_S A H0 H locs) (q0 t0 : Nat) {cA : ClassId} {n : Nat} {f : Nat → Nat} (ha : w[q0]? = some (ad, .inl (cA, n, .inl (aI (nZ f))))) (ht : tys[t0]? = some (cA, .int)) {z v : Nat} (h : z < n) (hn : n < 2147483648) (hdg : decode cc pc = .ok (.iastore, 1)) (k : ∀ (H1 : Heap) (locs1 : List Loc), va_P D cl (w.set q0 (ad, .inl (cA, n, .inl (aI (nZ (upN f z v)))))) H1 → va_D A (w.set q0 (ad, .inl (cA, n, .inl (aI (nZ (upN f z v)))))) → va_S A H0 H1 locs1 → W p l e R s m args below meth c H1 locs1 cells slots Q (F0 m (pc + 1) ls rest)) : W p l e R s m args below meth c H locs cells slots Q (F0 m pc ls (.int (iI (v : Int)) :: .int (iI (z : Int)) :: .ref ad :: rest)) := by
  refine z_iastN hx hb hK hP hD hS q0 t0 ha ht (v := (v : Int)) h hn hdg ?_
  rw [← nZ_up]
  exact k
def bZ (f : Nat → Bool) : Nat → Int := fun j => bI (f j)
def upB (f : Nat → Bool) (k : Nat) (v : Bool) : Nat → Bool := fun j => if j = k then v else f j
theorem bZ_up (f : Nat → Bool) (k : Nat) (v : Bool) : bZ (upB f k v) = upZ (bZ f) k (bI v) := by
  funext j
  unfold bZ upB upZ
  by_cases h : j = k
  · rw [if_pos h, if_pos h]
  · rw [if_neg h, if_neg h]
theorem upB_s (f : Nat → Bool) (k : Nat) (v : Bool) : upB f k v k = v := if_pos rfl
theorem upB_n (f : Nat → Bool) {k j : Nat} (v : Bool) (h : j ≠ k) : upB f k v j = f j := if_neg h
theorem z_bald (hx : p.tables.exec = Jvm.exec) (hb : c.code = cc) (hK : va_K D cl tys s) (hP : va_P D cl w H) (q0 t0 : Nat) {cA : ClassId} {n : Nat} {f : Nat → Bool} (ha : w[q0]? = some (ad, .inl (cA, n, .inl (aI (bZ f))))) (ht : tys[t0]? = some (cA, .boolean)) {z : Nat} (h : z < n) (hn : n < 2147483648) (hdg : decode cc pc = .ok (.baload, 1)) (k : W p l e R s m args below meth c H locs cells slots Q (F0 m (pc + 1) ls (.int (iI (bI (f z))) :: rest))) : W p l e R s m args below meth c H locs cells slots Q (F0 m pc ls (.int (iI (z : Int)) :: .ref ad :: rest)) := by
  refine va_zald hx hb hK hP q0 t0 ha ht (iI_in (z := (z : Int)) ⟨by omega, by omega⟩ hn) hdg ?_
  rw [iI_cl ⟨by omega, by omega⟩]
  exact k
theorem z_bast (hx : p.tables.exec = Jvm.exec) (hb : c.code = cc) (hK : va_K D cl tys s) (hP : va_P D cl w H) (hD : va_D A w) (hS : va_S A H0 H locs) (q0 t0 : Nat) {cA : ClassId} {n : Nat} {f : Nat → Bool} (ha : w[q0]? = some (ad, .inl (cA, n, .inl (aI (bZ f))))) (ht : tys[t0]? = some (cA, .boolean)) {z : Nat} (v : Bool) (h : z < n) (hn : n < 2147483648) (hdg : decode cc pc = .ok (.bastore, 1)) (k : ∀ (H1 : Heap) (locs1 : List Loc), va_P D cl (w.set q0 (ad, .inl (cA, n, .inl (aI (bZ (upB f z v)))))) H1 → va_D A (w.set q0 (ad, .inl (cA, n, .inl (aI (bZ (upB f z v)))))) → va_S A H0 H1 locs1 → W p l e R s m args below meth c H1 locs1 cells slots Q (F0 m (pc + 1) ls rest)) : W p l e R s m args below meth c H locs cells slots Q (F0 m pc ls (.int (iI (bI v)) :: .int (iI (z : Int)) :: .ref ad :: rest)) := by
  refine va_zast hx hb hK hP hD hS q0 t0 ha ht (iI_in (z := (z : Int)) ⟨by omega, by omega⟩ hn) hdg ?_
  have e : vp_nar .boolean (iI (bI v)) = iI (bI v) := by cases v <;> decide
  rw [e, upd_aI' _ (z := (z : Int)) ⟨by omega, by omega⟩, Int.toNat_natCast, ← bZ_up]
  exact k
theorem z_aald (hx : p.tables.exec = Jvm.exec) (hb : c.code = cc) (hK : va_K D cl tys s) (hP : va_P D cl w H) (q0 t0 : Nat) {cA : ClassId} {n a1 : Nat} {f : Nat → Option Nat} (ha : w[q0]? = some (ad, .inl (cA, n, .inr (.inr (.inr (.inr f)))))) (ht : tys[t0]? = some (cA, .array .int)) {z : Nat} (h : z < n) (hn : n < 2147483648) (hf : f z = some a1) (hdg : decode cc pc = .ok (.aaload, 1)) (k : W p l e R s m args below meth c H locs cells slots Q (F0 m (pc + 1) ls (.ref a1 :: rest))) : W p l e R s m args below meth c H locs cells slots Q (F0 m pc ls (.int (iI (z : Int)) :: .ref ad :: rest)) := by
  have h2 : ¬ (iI (z : Int) < 0 ∨ n ≤ (iI (z : Int)).toNatClampNeg) := iI_in (z := (z : Int)) ⟨by omega, by omega⟩ hn
  refine W.aald (v := .ref a1) (ty := .array .int) hx hb (hP q0 _ ha) ((hK.2 t0 _ ht).1 n (fun j => va_rf (f j))) rfl (fun q => by cases q) (by show ¬ (_ ∨ (arrV _ _ _).slots.size ≤ _); rw [arrV_size]; exact h2) ?_ rfl rfl hdg k
  show (arrV _ _ _).slots[_]? = _
  rw [arrV_read _ _ (by rw [iI_cl ⟨by omega, by omega⟩]; exact h), iI_cl ⟨by omega, by omega⟩]
  show some (va_rf (f z)) = _
  rw [hf]
  rfl
theorem z_alen (hx : p.tables.exec = Jvm.exec) (hb : c.code = cc) (hK : va_K D cl tys s) (hP : va_P D cl w H) (q0 t0 : Nat) {cA : ClassId} {x : vp_A} (ha : w[q0]? = some (ad, .inl (cA, x))) {ty : FieldType} (ht : tys[t0]? = some (cA, ty)) {n : Nat} (hn : x.1 = n) (hdg : decode cc pc = .ok (.arraylength, 1)) (k : W p l e R s m args below meth c H locs cells slots Q (F0 m (pc + 1) ls (.int (iI (n : Int)) :: rest))) : W p l e R s m args below meth c H locs cells slots Q (F0 m pc ls (.ref ad :: rest)) := va_alen hx hb hK hP q0 t0 ha ht (v := iI (n : Int)) (by subst hn; rfl) hdg k
theorem z_cellext {cA : ClassId} {n : Nat} {f f' : Nat → Int} (h : ∀ j, j < n → f j = f' j) : vp_cell cA (n, .inl (aI f)) = vp_cell cA (n, .inl (aI f')) := by
  show arrV cA n (fun j => .int (iI (f j))) = arrV cA n (fun j => .int (iI (f' j)))
  unfold arrV
  congr 2
  funext j
  exact congrArg (fun q => Value.int (iI q)) (h j.val j.isLt)
theorem z_ext {cA : ClassId} {n q0 : Nat} {f f' : Nat → Int} (hP : va_P D cl w H) (hD : va_D A w) (ha : w[q0]? = some (ad, .inl (cA, n, .inl (aI f)))) (h : ∀ j, j < n → f j = f' j) : va_P D cl (w.set q0 (ad, .inl (cA, n, .inl (aI f')))) H := by
  refine hP.set hD ha ?_ (fun _ _ => rfl)
  show H[ad]? = some (vp_cell _ _)
  rw [← z_cellext h]
  exact hP q0 _ ha
theorem z_mmax (hx : p.tables.exec = Jvm.exec) (hb : c.code = cc) {nL : Nat} (hml : c.maxLocals = nL) (hls : ls.size = nL) {own : String} {index : Nat} (hown : s.vm.findClass own = some m.cls) (h1 : (Cond.methodLink own index Lib.Math.max.name).before args s = true) (h2 : (Cond.static Lib.Math.max.name).before args s = true) (h3 : (Cond.initialized "java/lang/Math").before args s = true) (h4 : (Cond.code Lib.Math.max.name Lib.Math.max.code 2 (some .int)).before args s = true)
    (hframes : 1 ≤ R.frames) (hlocals : (rest.map fun v => v.category).sum + 13 ≤ R.locals) (hc : cells ≤ R.cells) (hs : slots ≤ R.slots) {a b : Int} (h : (-2147483648 ≤ a ∧ a < 2147483648) ∧ (-2147483648 ≤ b ∧ b < 2147483648)) (hdg : decode cc pc = .ok (.invokestatic index, 3)) (k : W p l e R s m args below meth c H locs cells slots Q (F0 m (pc + 3) ls (.int (iI (max a b)) :: rest))) : W p l e R s m args below meth c H locs cells slots Q (F0 m pc ls (.int (iI b) :: .int (iI a) :: rest)) := by
  refine va_mmax hx hb (hml.trans hls.symm) hown h1 h2 h3 h4 hframes hlocals hc hs hdg ?_
  have e : (if iI a < iI b then iI b else iI a) = iI (max a b) := by
    by_cases q : a < b
    · rw [if_pos ((iI_lt h).mpr q), Int.max_eq_right (by omega)]
    · rw [if_neg (fun r => q ((iI_lt h).mp r)), Int.max_eq_left (by omega)]
  rw [e]
  exact k
theorem z_mmin (hx : p.tables.exec = Jvm.exec) (hb : c.code = cc) {nL : Nat} (hml : c.maxLocals = nL) (hls : ls.size = nL) {own : String} {index : Nat} (hown : s.vm.findClass own = some m.cls) (h1 : (Cond.methodLink own index Lib.Math.min.name).before args s = true) (h2 : (Cond.static Lib.Math.min.name).before args s = true) (h3 : (Cond.initialized "java/lang/Math").before args s = true) (h4 : (Cond.code Lib.Math.min.name Lib.Math.min.code 2 (some .int)).before args s = true)
    (hframes : 1 ≤ R.frames) (hlocals : (rest.map fun v => v.category).sum + 13 ≤ R.locals) (hc : cells ≤ R.cells) (hs : slots ≤ R.slots) {a b : Int} (h : (-2147483648 ≤ a ∧ a < 2147483648) ∧ (-2147483648 ≤ b ∧ b < 2147483648)) (hdg : decode cc pc = .ok (.invokestatic index, 3)) (k : W p l e R s m args below meth c H locs cells slots Q (F0 m (pc + 3) ls (.int (iI (min a b)) :: rest))) : W p l e R s m args below meth c H locs cells slots Q (F0 m pc ls (.int (iI b) :: .int (iI a) :: rest)) := by
  refine va_mmin hx hb (hml.trans hls.symm) hown h1 h2 h3 h4 hframes hlocals hc hs hdg ?_
  have e : (if iI b < iI a then iI b else iI a) = iI (min a b) := by
    by_cases q : b < a
    · rw [if_pos ((iI_lt ⟨h.2, h.1⟩).mpr q), Int.min_eq_right (by omega)]
    · rw [if_neg (fun r => q ((iI_lt ⟨h.2, h.1⟩).mp r)), Int.min_eq_left (by omega)]
  rw [e]
  exact k
end ZL
abbrev LD : Type := Nat × Nat × (Nat → Nat) × (Nat → Nat) × (Nat → Nat) × (Nat → Nat) × (Nat → Nat) × (Nat → Nat) × (Nat → Nat)
def Ln (L : LD) : Nat := L.1
def Lm (L : LD) : Nat := L.2.1
def Lu (L : LD) : Nat → Nat := L.2.2.1
def Lkd (L : LD) : Nat → Nat := L.2.2.2.1
def Lby (L : LD) : Nat → Nat := L.2.2.2.2.1
def Lsr (L : LD) : Nat → Nat := L.2.2.2.2.2.1
def Lds (L : LD) : Nat → Nat := L.2.2.2.2.2.2.1
def Ldl (L : LD) : Nat → Nat := L.2.2.2.2.2.2.2.1
def Ldi (L : LD) : Nat → Nat := L.2.2.2.2.2.2.2.2
def wf (L : LD) : Prop := Ln L ≤ 14 ∧ Lm L ≤ 40 ∧ (∀ k, k < 3 → 1 ≤ Lu L k ∧ Lu L k ≤ 3) ∧ (∀ i, Lkd L i < 3) ∧ (∀ i, Lby L i ≤ 4) ∧ (∀ i, i < Ln L → 1 ≤ Lby L i) ∧ (∀ k, k < Lm L → Lsr L k < Ln L ∧ Lds L k < Ln L) ∧ (∀ k, Lsr L k < 14 ∧ Lds L k < 14) ∧ (∀ k, Ldl L k ≤ 12) ∧ (∀ k, Ldi L k ≤ 3)
theorem wf_n {L : LD} (h : wf L) : Ln L ≤ 14 := h.1
theorem wf_m {L : LD} (h : wf L) : Lm L ≤ 40 := h.2.1
theorem wf_u {L : LD} (h : wf L) : ∀ k, k < 3 → 1 ≤ Lu L k ∧ Lu L k ≤ 3 := h.2.2.1
theorem wf_kd {L : LD} (h : wf L) : ∀ i, Lkd L i < 3 := h.2.2.2.1
theorem wf_by {L : LD} (h : wf L) : ∀ i, Lby L i ≤ 4 := h.2.2.2.2.1
theorem wf_by1 {L : LD} (h : wf L) : ∀ i, i < Ln L → 1 ≤ Lby L i := h.2.2.2.2.2.1
theorem wf_ed {L : LD} (h : wf L) : ∀ k, k < Lm L → Lsr L k < Ln L ∧ Lds L k < Ln L := h.2.2.2.2.2.2.1
theorem wf_sd {L : LD} (h : wf L) : ∀ k, Lsr L k < 14 ∧ Lds L k < 14 := h.2.2.2.2.2.2.2.1
theorem wf_dl {L : LD} (h : wf L) : ∀ k, Ldl L k ≤ 12 := h.2.2.2.2.2.2.2.2.1
theorem wf_di {L : LD} (h : wf L) : ∀ k, Ldi L k ≤ 3 := h.2.2.2.2.2.2.2.2.2
def zT (g : Nat → ClassId) : List (ClassId × FieldType) := [(g 0, .int), (g 1, .array .int), (g 2, .boolean), (g 3, .long)]
def wX (a : Nat → Nat) (g : Nat → ClassId) (L : LD) (att T : Nat) (hs tm : Nat → Int) (tk : Nat → Nat → Int) (lt : Nat → Int) : va_W :=
  [(a 0, .inr (2, [.ref (a 1), .ref (a 2), .int (iI (att : Int))])),
   (a 1, .inr (0, [.ref (a 3), .ref (a 4), .ref (a 5), .ref (a 6), .ref (a 7), .ref (a 8), .ref (a 9), .ref (a 10), .int (iI (Ln L : Int)), .int (iI (Lm L : Int))])),
   (a 2, .inr (1, [.ref (a 1), .ref (a 11), .ref (a 12), .ref (a 16), .int (iI (T : Int))])),
   (a 3, .inl (g 0, 3, .inl (aI (nZ (Lu L))))), (a 4, .inl (g 0, 14, .inl (aI (nZ (Lkd L))))), (a 5, .inl (g 0, 14, .inl (aI (nZ (Lby L))))),
   (a 6, .inl (g 0, 40, .inl (aI (nZ (Lsr L))))), (a 7, .inl (g 0, 40, .inl (aI (nZ (Lds L))))), (a 8, .inl (g 0, 40, .inl (aI (nZ (Ldl L))))), (a 9, .inl (g 0, 40, .inl (aI (nZ (Ldi L))))),
   (a 10, .inl (g 0, 14, .inl (aI hs))), (a 11, .inl (g 0, 14, .inl (aI tm))), (a 12, .inl (g 1, 3, .inr (.inr (.inr (.inr (fun j => if j < 3 then some (a (13 + j)) else none)))))),
   (a 13, .inl (g 0, 200, .inl (aI (tk 0)))), (a 14, .inl (g 0, 200, .inl (aI (tk 1)))), (a 15, .inl (g 0, 200, .inl (aI (tk 2)))), (a 16, .inl (g 0, 14, .inl (aI lt)))]
def wM (a : Nat → Nat) (g : Nat → ClassId) (th : Int) (L : LD) (att T : Nat) (hs tm : Nat → Int) (pl : Nat → Bool) (cn : Nat → Int) : va_W :=
  [(a 0, .inr (3, [.int (iI th), .ref (a 1), .int (iI (Ln L : Int)), .ref (a 2), .ref (a 3), .int (iI (Lm L : Int)), .ref (a 4), .ref (a 5), .ref (a 6), .ref (a 7), .int (iI (T : Int)), .ref (a 8), .int (iI (att : Int)), .ref (a 9), .ref (a 10), .ref (a 11)])),
   (a 1, .inl (g 0, 3, .inl (aI (nZ (Lu L))))), (a 2, .inl (g 0, 14, .inl (aI (nZ (Lkd L))))), (a 3, .inl (g 0, 14, .inl (aI (nZ (Lby L))))),
   (a 4, .inl (g 0, 40, .inl (aI (nZ (Lsr L))))), (a 5, .inl (g 0, 40, .inl (aI (nZ (Lds L))))), (a 6, .inl (g 0, 40, .inl (aI (nZ (Ldl L))))), (a 7, .inl (g 0, 40, .inl (aI (nZ (Ldi L))))),
   (a 8, .inl (g 0, 14, .inl (aI tm))), (a 9, .inl (g 0, 14, .inl (aI hs))), (a 10, .inl (g 2, 14, .inl (aI (bZ pl)))), (a 11, .inl (g 0, 600, .inl (aI cn)))]
def up2 (tk : Nat → Nat → Int) (k r : Nat) (v : Int) : Nat → Nat → Int := fun j => if j = k then upZ (tk k) r v else tk j
theorem wX_row {a : Nat → Nat} {g : Nat → ClassId} {L : LD} {att T : Nat} {hs tm : Nat → Int} {tk : Nat → Nat → Int} {lt : Nat → Int} {k : Nat} (h : k < 3) : (wX a g L att T hs tm tk lt)[13 + k]? = some (a (13 + k), .inl (g 0, 200, .inl (aI (tk k)))) := by
  match k, h with
  | 0, _ => rfl
  | 1, _ => rfl
  | 2, _ => rfl
theorem wX_put {a : Nat → Nat} {g : Nat → ClassId} {L : LD} {att T : Nat} {hs tm : Nat → Int} {tk : Nat → Nat → Int} {lt : Nat → Int} {k : Nat} (h : k < 3) (r : Nat) (v : Int) : (wX a g L att T hs tm tk lt).set (13 + k) (a (13 + k), .inl (g 0, 200, .inl (aI (upZ (tk k) r v)))) = wX a g L att T hs tm (up2 tk k r v) lt := by
  match k, h with
  | 0, _ => rfl
  | 1, _ => rfl
  | 2, _ => rfl
end
section
theorem bI_r (b : Bool) : -2147483648 ≤ bI b ∧ bI b < 2147483648 := by cases b <;> decide
theorem bI_t {b : Bool} (h : ¬ bI b = 0) : b = true := by
  cases b
  · exact absurd rfl h
  · rfl
theorem bI_f {b : Bool} (h : bI b = 0) : b = false := by
  cases b
  · rfl
  · exact absurd h (by decide)
def gr1 (L : LD) (t k : Nat) (q : (Nat → Int) × Bool) : (Nat → Int) × Bool :=
  if q.1 (Lsr L k) < q.1 (Lds L k) + (Ldl L k : Int) - (t : Int) * (Ldi L k : Int) then (upZ q.1 (Lsr L k) (q.1 (Lds L k) + (Ldl L k : Int) - (t : Int) * (Ldi L k : Int)), true) else q
def gr (L : LD) (t : Nat) : Nat → (Nat → Int) × Bool → (Nat → Int) × Bool
  | 0, q => q
  | k + 1, q => gr1 L t k (gr L t k q)
theorem gr_s (L : LD) (t k : Nat) (q : (Nat → Int) × Bool) : gr L t (k + 1) q = gr1 L t k (gr L t k q) := rfl
theorem gr1_t {L : LD} {t k : Nat} {h : Nat → Int} {b : Bool} (c : h (Lsr L k) < h (Lds L k) + (Ldl L k : Int) - (t : Int) * (Ldi L k : Int)) : gr1 L t k (h, b) = (upZ h (Lsr L k) (h (Lds L k) + (Ldl L k : Int) - (t : Int) * (Ldi L k : Int)), true) := if_pos c
theorem gr1_f {L : LD} {t k : Nat} {h : Nat → Int} {b : Bool} (c : ¬ h (Lsr L k) < h (Lds L k) + (Ldl L k : Int) - (t : Int) * (Ldi L k : Int)) : gr1 L t k (h, b) = (h, b) := if_neg c
def gB (B : Int) (h : Nat → Int) : Prop := ∀ j, 0 ≤ h j ∧ h j ≤ B
theorem mul_nn (t d : Nat) : (0 : Int) ≤ (t : Int) * (d : Int) := Int.mul_nonneg (Int.natCast_nonneg t) (Int.natCast_nonneg d)
theorem mul_bd {t d T E : Nat} (h1 : t ≤ T) (h2 : d ≤ E) : (t : Int) * (d : Int) ≤ (T * E : Nat) := by
  have h : t * d ≤ T * E := Nat.mul_le_mul h1 h2
  have e : ((t * d : Nat) : Int) = (t : Int) * (d : Int) := Int.natCast_mul t d
  omega
theorem gr_bd {L : LD} (hw : wf L) {t : Nat} {B : Int} {h : Nat → Int} {b : Bool} (hh : gB B h) (k : Nat) : gB (B + 12 * (k : Int)) (gr L t k (h, b)).1 := by
  induction k with
  | zero =>
    intro j
    have := hh j
    show 0 ≤ h j ∧ h j ≤ _
    omega
  | succ k ih =>
    intro j
    rw [gr_s]
    unfold gr1
    have h1 := ih j
    have h2 := ih (Lds L k)
    have h3 := ih (Lsr L k)
    have h4 := wf_dl hw k
    have h5 := mul_nn t (Ldi L k)
    by_cases c : (gr L t k (h, b)).1 (Lsr L k) < (gr L t k (h, b)).1 (Lds L k) + (Ldl L k : Int) - (t : Int) * (Ldi L k : Int)
    · rw [if_pos c]
      show 0 ≤ upZ _ _ _ j ∧ upZ _ _ _ j ≤ _
      by_cases e : j = Lsr L k
      · subst e; rw [upZ_s]; omega
      · rw [upZ_n _ _ e]; omega
    · rw [if_neg c]; omega
theorem gr_same {L : LD} {t : Nat} {h : Nat → Int} (k : Nat) (hf : (gr L t k (h, false)).2 = false) : gr L t k (h, false) = (h, false) := by
  induction k with
  | zero => rfl
  | succ k ih =>
    rw [gr_s] at hf ⊢
    unfold gr1 at hf ⊢
    by_cases c : (gr L t k (h, false)).1 (Lsr L k) < (gr L t k (h, false)).1 (Lds L k) + (Ldl L k : Int) - (t : Int) * (Ldi L k : Int)
    · rw [if_pos c] at hf
      exact absurd (show true = false from hf) (by decide)
    · rw [if_neg c] at hf ⊢
      exact ih hf
def hit (L : LD) (t : Nat) : Nat → (Nat → Int)
  | 0 => fun _ => 0
  | r + 1 => (gr L t (Lm L) (hit L t r, false)).1
def fl (L : LD) (t r : Nat) : Bool := (gr L t (Lm L) (hit L t r, false)).2
def cv (L : LD) (t : Nat) : Bool := !(fl L t (Ln L))
def hF (L : LD) (t : Nat) : Nat → Int := hit L t (Ln L + 1)
theorem hit_s (L : LD) (t r : Nat) : (gr L t (Lm L) (hit L t r, false)).1 = hit L t (r + 1) := rfl
theorem fl_hit {L : LD} {t r : Nat} (h : fl L t r = false) : hit L t (r + 1) = hit L t r := by
  show (gr L t (Lm L) (hit L t r, false)).1 = _
  rw [gr_same (Lm L) h]
theorem fl_stay {L : LD} {t r : Nat} (h : fl L t r = false) (d : Nat) : hit L t (r + d) = hit L t r ∧ fl L t (r + d) = false := by
  induction d with
  | zero => exact ⟨rfl, h⟩
  | succ d ih =>
    have e : hit L t (r + (d + 1)) = hit L t r := (fl_hit ih.2).trans ih.1
    refine ⟨e, ?_⟩
    show (gr L t (Lm L) (hit L t (r + (d + 1)), false)).2 = false
    rw [e]
    exact h
theorem fl_end {L : LD} {t r : Nat} (hr : r ≤ Ln L) (h : fl L t r = false) : cv L t = true ∧ hit L t (r + 1) = hF L t := by
  have h1 := fl_stay h (Ln L - r)
  have h2 := fl_stay h (Ln L + 1 - r)
  rw [show r + (Ln L - r) = Ln L by omega] at h1
  rw [show r + (Ln L + 1 - r) = Ln L + 1 by omega] at h2
  refine ⟨by unfold cv; rw [h1.2]; rfl, ?_⟩
  rw [fl_hit h]
  exact h2.1.symm
theorem hit_bd {L : LD} (hw : wf L) (t r : Nat) : gB (480 * (r : Int)) (hit L t r) := by
  induction r with
  | zero =>
    intro j
    show (0 : Int) ≤ 0 ∧ (0 : Int) ≤ _
    omega
  | succ r ih =>
    intro j
    have h := gr_bd hw (t := t) (b := false) ih (Lm L) j
    have hm := wf_m hw
    show 0 ≤ (gr L t (Lm L) (hit L t r, false)).1 j ∧ (gr L t (Lm L) (hit L t r, false)).1 j ≤ _
    omega
def hv (L : LD) : Nat → Nat
  | 0 => 0
  | i + 1 => if cv L (hv L i + 128 / 2 ^ i) = true then hv L i else hv L i + 128 / 2 ^ i
theorem hv_t {L : LD} {i : Nat} (h : cv L (hv L i + 128 / 2 ^ i) = true) : hv L (i + 1) = hv L i := if_pos h
theorem hv_f {L : LD} {i : Nat} (h : cv L (hv L i + 128 / 2 ^ i) = false) : hv L (i + 1) = hv L i + 128 / 2 ^ i := if_neg (by rw [h]; decide)
theorem hv_le (L : LD) (i : Nat) : hv L (i + 1) ≤ hv L i + 128 / 2 ^ i := by
  by_cases h : cv L (hv L i + 128 / 2 ^ i) = true
  · rw [hv_t h]; exact Nat.le_add_right _ _
  · rw [show hv L (i + 1) = _ from if_neg h]; exact Nat.le_refl _
theorem pw_all : ∀ i, i < 9 → 128 / 2 ^ i ≤ 128 ∧ (i < 8 → 0 < 128 / 2 ^ i) ∧ (i = 8 → 128 / 2 ^ i = 0) ∧ 128 / 2 ^ i / 2 = 128 / 2 ^ (i + 1) := by decide
theorem hv_bd (L : LD) : ∀ i, i < 9 → hv L i + 128 / 2 ^ i ≤ 255 := by
  have h0 : hv L 0 = 0 := rfl
  have h1 := hv_le L 0
  have h2 := hv_le L 1
  have h3 := hv_le L 2
  have h4 := hv_le L 3
  have h5 := hv_le L 4
  have h6 := hv_le L 5
  have h7 := hv_le L 6
  have h8 := hv_le L 7
  intro i hi
  simp only [Nat.reducePow, Nat.reduceDiv, Nat.zero_add, Nat.reduceAdd] at h1 h2 h3 h4 h5 h6 h7 h8
  match i, hi with
  | 0, _ => simp only [Nat.reducePow, Nat.reduceDiv]; omega
  | 1, _ => simp only [Nat.reducePow, Nat.reduceDiv]; omega
  | 2, _ => simp only [Nat.reducePow, Nat.reduceDiv]; omega
  | 3, _ => simp only [Nat.reducePow, Nat.reduceDiv]; omega
  | 4, _ => simp only [Nat.reducePow, Nat.reduceDiv]; omega
  | 5, _ => simp only [Nat.reducePow, Nat.reduceDiv]; omega
  | 6, _ => simp only [Nat.reducePow, Nat.reduceDiv]; omega
  | 7, _ => simp only [Nat.reducePow, Nat.reduceDiv]; omega
  | 8, _ => simp only [Nat.reducePow, Nat.reduceDiv]; omega
def rBz (L : LD) : Int := if hv L 8 < 200 then ((hv L 8 + 1 : Nat) : Int) else -1
def bcs (L : LD) (x : Nat) : Nat → Nat
  | 0 => 0
  | i + 1 => if Lkd L i = x then bcs L x i + Lby L i else bcs L x i
theorem bcs_t {L : LD} {x i : Nat} (h : Lkd L i = x) : bcs L x (i + 1) = bcs L x i + Lby L i := if_pos h
theorem bcs_f {L : LD} {x i : Nat} (h : ¬ Lkd L i = x) : bcs L x (i + 1) = bcs L x i := if_neg h
theorem bcs_bd {L : LD} (hw : wf L) (x i : Nat) : bcs L x i ≤ 4 * i := by
  induction i with
  | zero => exact Nat.le_refl _
  | succ i ih =>
    have := wf_by hw i
    by_cases h : Lkd L i = x
    · rw [bcs_t h]; omega
    · rw [bcs_f h]; omega
def rsk (L : LD) : Nat → Nat
  | 0 => 1
  | k + 1 => max (rsk L k) ((bcs L k (Ln L) + Lu L k - 1) / Lu L k)
def rs (L : LD) : Nat := rsk L 3
theorem rsk_bd {L : LD} (hw : wf L) (k : Nat) : rsk L k ≤ 100 := by
  induction k with
  | zero => exact (show 1 ≤ 100 by decide)
  | succ k ih =>
    have h1 := bcs_bd hw k (Ln L)
    have h2 := wf_n hw
    show max (rsk L k) ((bcs L k (Ln L) + Lu L k - 1) / Lu L k) ≤ 100
    have h3 : (bcs L k (Ln L) + Lu L k - 1) / Lu L k ≤ 100 := by
      rcases Nat.eq_zero_or_pos (Lu L k) with h | h
      · rw [h, Nat.div_zero]; omega
      · refine Nat.div_le_of_le_mul ?_
        have : Lu L k * 100 = Lu L k * 99 + Lu L k := by omega
        have h5 : 1 * 99 ≤ Lu L k * 99 := Nat.mul_le_mul_right _ h
        omega
    omega
theorem rsk_pos (L : LD) (k : Nat) : 1 ≤ rsk L k := by
  induction k with
  | zero => exact Nat.le_refl _
  | succ k ih => exact Nat.le_trans ih (Nat.le_max_left _ _)
end
section
def flN (f : Nat → Int) (k : Nat) (v : Int) : Nat → Int := fun j => if j < k then v else f j
theorem flN_s (f : Nat → Int) (k : Nat) (v : Int) : upZ (flN f k v) k v = flN f (k + 1) v := by
  funext j
  unfold upZ flN
  by_cases h : j = k
  · rw [if_pos h, if_pos (by omega)]
  · rw [if_neg h]
    by_cases h2 : j < k
    · rw [if_pos h2, if_pos (by omega)]
    · rw [if_neg h2, if_neg (by omega)]
theorem setset {w : va_W} {q : Nat} {x y : Nat × va_E} : (w.set q x).set q y = w.set q y := by rw [List.set_set]
theorem setget {w : va_W} {q : Nat} {x y : Nat × va_E} (h : w[q]? = some x) : (w.set q y)[q]? = some y := by
  rw [List.getElem?_set_self (List.getElem?_eq_some_iff.mp h).1]
theorem setself {w : va_W} {q : Nat} {x : Nat × va_E} (h : w[q]? = some x) : w.set q x = w := by
  obtain ⟨h1, h2⟩ := List.getElem?_eq_some_iff.mp h
  rw [← h2]
  exact List.set_getElem_self h1
set_option maxHeartbeats 4000000 in
set_option maxRecDepth 100000 in
theorem c_fill (l : Launch) (D : va_G) (g : Nat → ClassId) (w : va_W) (q0 n : Nat) (ad : Nat) (f : Nat → Int) (v : Int) (hq : w[q0]? = some (ad, .inl (g 0, n, .inl (aI f)))) (hn : n < 1000) : zMv l D (zT g) yJ7_fill_53178 wsJ7_fill_53178 1 12 w [.ref ad, .int (iI v)] (fun w1 => w1 = w.set q0 (ad, .inl (g 0, n, .inl (aI (fun _ => v))))) := by
  refine z_ofV (cc := cJ7_fill_53178) (maxL := 4) (ret := none) (by decide) rfl (Nat.le_of_ble_eq_true rfl) ?_
  intro p e s m args below meth c A ls hx hb hr hts hown hlocks hml hP hK hD hS hA hl Q hQ
  have hl : lv_has ls 4 [(0, .ref ad), (1, .int (iI v))] := hl
  refine z_ic hx hb dJ7_fill_53178_0 ?_
  refine lv_istore_n (lv' := [(2, .int (iI ((0 : Nat) : Int))), (0, .ref ad), (1, .int (iI v))]) hx hb dJ7_fill_53178_1 rfl hl (by decide) rfl (fun ls hl => ?_)
  refine lv_aload_n hx hb dJ7_fill_53178_2 rfl (lv_at hl 1 rfl) ?_
  refine z_alen hx hb hK hP q0 0 hq rfl rfl dJ7_fill_53178_3 ?_
  refine lv_istore_n (lv' := [(3, .int (iI ((n : Nat) : Int))), (2, .int (iI ((0 : Nat) : Int))), (0, .ref ad), (1, .int (iI v))]) hx hb dJ7_fill_53178_4 rfl hl (by decide) rfl (fun ls hl => ?_)
  have loop5 : ∀ (n5 : Nat) (k : Nat) (H : Heap) (locs : List Loc) (ls : Array Slot), n - k < n5 → k ≤ n → va_P D vwCl (w.set q0 (ad, .inl (g 0, n, .inl (aI (flN f k v))))) H → va_D A (w.set q0 (ad, .inl (g 0, n, .inl (aI (flN f k v))))) → va_S A s.heap H locs → lv_has ls 4 [(3, .int (iI ((n : Nat) : Int))), (2, .int (iI ((k : Nat) : Int))), (0, .ref ad), (1, .int (iI v))] → W p l e ({ frames := 1, cells := 0, slots := 0, locals := 12 } : Room) s m args below meth c H locs 0 0 Q (F0 m 5 ls []) := by
    intro n5
    induction n5 with
    | zero => exact fun _ H locs ls hn => absurd hn (Nat.not_lt_zero _)
    | succ n5 ih =>
      intro k H locs ls hn5 hk hP hD hS hl
      refine lv_iload_n hx hb dJ7_fill_53178_5 rfl (lv_at hl 1 rfl) ?_
      refine lv_iload_n hx hb dJ7_fill_53178_6 rfl (lv_at hl 0 rfl) ?_
      refine z_icge (a := (k : Int)) (b := (n : Int)) (tgt := 20) hx hb dJ7_fill_53178_7 (by decide) (by omega) (fun c_7 => ?_) (fun c_7 => ?_)
      · obtain rfl : k = n := by omega
        have hP := z_ext (f' := fun _ => v) hP hD (setget hq) (fun j hj => if_pos hj)
        have hD := hD.set (e := .inl (g 0, k, .inl (aI (fun _ => v)))) (setget hq)
        rw [setset] at hP hD
        exact z_vret hQ hx hb hr hlocks rfl hK hP hD hS dJ7_fill_53178_20
      · refine lv_aload_n hx hb dJ7_fill_53178_10 rfl (lv_at hl 2 rfl) ?_
        refine lv_iload_n hx hb dJ7_fill_53178_11 rfl (lv_at hl 1 rfl) ?_
        refine lv_iload_n hx hb dJ7_fill_53178_12 rfl (lv_at hl 3 rfl) ?_
        refine z_iastN (f := flN f k v) (z := k) (v := v) hx hb hK hP hD hS q0 0 (setget hq) rfl (by omega) (by omega) dJ7_fill_53178_13 (fun H locs hP hD hS => ?_)
        rw [setset, flN_s] at hP hD
        refine z_iinc (a := ((k : Nat) : Int)) (b := ((k + 1 : Nat) : Int)) (lv' := [(2, .int (iI ((k + 1 : Nat) : Int))), (3, .int (iI ((n : Nat) : Int))), (0, .ref ad), (1, .int (iI v))]) hx hb 1 dJ7_fill_53178_14 hl rfl rfl (by decide) rfl (fun ls hl => ?_)
        refine lv_goto (tgt := 5) hx hb dJ7_fill_53178_17 (by decide) ?_
        exact ih (k + 1) _ _ _ (by omega) (by omega) hP hD hS (lv_sub hl [1, 0, 2, 3] rfl)
  have e0 : flN f 0 v = f := funext fun j => if_neg (Nat.not_lt_zero j)
  exact loop5 (n + 1) 0 _ _ _ (by omega) (Nat.zero_le n) (by rw [e0, setself hq]; exact hP) (by rw [e0, setself hq]; exact hD) hS hl
set_option maxHeartbeats 4000000 in
set_option maxRecDepth 100000 in
theorem c_X0_raiseHeights (l : Launch) (D : va_G) (g : Nat → ClassId) (a : Nat → Nat) (L : LD) (att T : Nat) (hs tm : Nat → Int) (tk : Nat → Nat → Int) (lt : Nat → Int) (t : Nat) (B : Int) (hw : wf L) (ht : t ≤ 255) (hB : B ≤ 10000) (hh : gB B hs) : zMi l D (zT g) yX0_raiseHeights wsX0_raiseHeights 1 12 (wX a g L att T hs tm tk lt) [.ref (a 1), .int (iI ((t : Nat) : Int))] (fun r w1 => r = iI (bI (gr L t (Lm L) (hs, false)).2) ∧ w1 = wX a g L att T (gr L t (Lm L) (hs, false)).1 tm tk lt) := by
  refine z_ofI (cc := cX0_raiseHeights) (maxL := 5) (ret := (some .boolean)) (by decide) rfl (Nat.le_of_ble_eq_true rfl) ?_
  intro p e s m args below meth c A ls hx hb hr hts hown hlocks hml hP hK hD hS hA hl Q hQ
  have hown : s.vm.findClass RX0 = some m.cls := hown
  have hinX0 : ∀ w ∈ u_ws RX0 TX0 10, w ∈ wsX0_raiseHeights := by decide +kernel
  have hl : lv_has ls 5 [(0, .ref (a 1)), (1, .int (iI ((t : Nat) : Int)))] := hl
  refine z_ic hx hb dX0_raiseHeights_0 ?_
  refine lv_istore_n (lv' := [(2, .int (iI ((0 : Nat) : Int))), (0, .ref (a 1)), (1, .int (iI ((t : Nat) : Int)))]) hx hb dX0_raiseHeights_1 rfl hl (by decide) rfl (fun ls hl => ?_)
  refine z_ic hx hb dX0_raiseHeights_2 ?_
  refine lv_istore_n (lv' := [(3, .int (iI ((0 : Nat) : Int))), (2, .int (iI ((0 : Nat) : Int))), (0, .ref (a 1)), (1, .int (iI ((t : Nat) : Int)))]) hx hb dX0_raiseHeights_3 rfl hl (by decide) rfl (fun ls hl => ?_)
  have loop4 : ∀ (n4 : Nat) (k : Nat) (h' : Nat → Int) (b : Bool) (H : Heap) (locs : List Loc) (ls : Array Slot), Lm L - k < n4 → (k ≤ Lm L) → (gr L t k (hs, false) = (h', b)) → va_P D vwCl (wX a g L att T h' tm tk lt) H → va_D A (wX a g L att T h' tm tk lt) → va_S A s.heap H locs → lv_has ls 5 [(0, .ref (a 1)), (1, .int (iI ((t : Nat) : Int))), (2, .int (iI (bI b))), (3, .int (iI ((k : Nat) : Int)))] → W p l e ({ frames := 1, cells := 0, slots := 0, locals := 12 } : Room) s m args below meth c H locs 0 0 Q (F0 m 4 ls []) := by
    intro n4
    induction n4 with
    | zero => exact fun _ _ _ H locs ls hn => absurd hn (Nat.not_lt_zero _)
    | succ n4 ih4 =>
      intro k h' b H locs ls hn4 hk hi hP hD hS hl
      have hwm := wf_m hw
      have hbd : gB (B + 12 * (k : Int)) h' := by have q := gr_bd hw (t := t) (b := false) hh k; rw [hi] at q; exact q
      have hsd := wf_sd hw k
      have b1 := hbd (Lds L k)
      have b2 := hbd (Lsr L k)
      have hdl := wf_dl hw k
      have hmn := mul_nn t (Ldi L k)
      have hmb := mul_bd ht (wf_di hw k)
      refine lv_iload_n hx hb dX0_raiseHeights_4 rfl (lv_at hl 3 rfl) ?_
      refine lv_aload_n hx hb dX0_raiseHeights_5 rfl (lv_at hl 0 rfl) ?_
      refine va_get (D := D) (ci := 0) (v := .int (iI ((Lm L : Nat) : Int))) (C := RX0) (T := TX0) (N := 10) hx hb hts hinX0 hown hK hP 1 rfl rfl 9 (by decide) (hts (.fieldLink RX0 40 "LoopScheduler$Loop" "dependences" "I") (List.mem_of_getElem? (i := 1) rfl)) (fun _ h9 => h9) rfl dX0_raiseHeights_6 ?_
      refine z_icge (a := ((k : Nat) : Int)) (b := ((Lm L : Nat) : Int)) (tgt := 78) hx hb dX0_raiseHeights_9 (by decide) (by omega) (fun c_9 => ?_) (fun c_9 => ?_)
      · obtain rfl : k = Lm L := by omega
        refine lv_iload_n hx hb dX0_raiseHeights_78 rfl (lv_at hl 2 rfl) ?_
        exact z_zret (w := (wX a g L att T h' tm tk lt)) (v := (iI (bI b))) (z_nb _) hQ hx hb hr hlocks ⟨by rw [hi], by rw [hi]⟩ hK hP hD hS dX0_raiseHeights_79
      · refine lv_aload_n hx hb dX0_raiseHeights_12 rfl (lv_at hl 0 rfl) ?_
        refine va_get (D := D) (ci := 0) (v := .ref (a 10)) (C := RX0) (T := TX0) (N := 10) hx hb hts hinX0 hown hK hP 1 rfl rfl 7 (by decide) (hts (.fieldLink RX0 33 "LoopScheduler$Loop" "heights" "[I") (List.mem_of_getElem? (i := 2) rfl)) (fun _ h9 => h9) rfl dX0_raiseHeights_13 ?_
        refine lv_aload_n hx hb dX0_raiseHeights_16 rfl (lv_at hl 0 rfl) ?_
        refine va_get (D := D) (ci := 0) (v := .ref (a 7)) (C := RX0) (T := TX0) (N := 10) hx hb hts hinX0 hown hK hP 1 rfl rfl 4 (by decide) (hts (.fieldLink RX0 24 "LoopScheduler$Loop" "targets" "[I") (List.mem_of_getElem? (i := 3) rfl)) (fun _ h9 => h9) rfl dX0_raiseHeights_17 ?_
        refine lv_iload_n hx hb dX0_raiseHeights_20 rfl (lv_at hl 3 rfl) ?_
        refine z_ialdZ (f := Lds L) (z := k) hx hb hK hP 7 0 rfl rfl (by omega) (by decide) dX0_raiseHeights_21 ?_
        refine z_ialdN (f := h') (z := Lds L k) hx hb hK hP 10 0 rfl rfl (by omega) (by decide) dX0_raiseHeights_22 ?_
        refine lv_aload_n hx hb dX0_raiseHeights_23 rfl (lv_at hl 0 rfl) ?_
        refine va_get (D := D) (ci := 0) (v := .ref (a 8)) (C := RX0) (T := TX0) (N := 10) hx hb hts hinX0 hown hK hP 1 rfl rfl 5 (by decide) (hts (.fieldLink RX0 27 "LoopScheduler$Loop" "delays" "[I") (List.mem_of_getElem? (i := 4) rfl)) (fun _ h9 => h9) rfl dX0_raiseHeights_24 ?_
        refine lv_iload_n hx hb dX0_raiseHeights_27 rfl (lv_at hl 3 rfl) ?_
        refine z_ialdZ (f := Ldl L) (z := k) hx hb hK hP 8 0 rfl rfl (by omega) (by decide) dX0_raiseHeights_28 ?_
        refine z_add (a := (h' (Lds L k))) (b := ((Ldl L k : Nat) : Int)) hx hb dX0_raiseHeights_29 ?_
        refine lv_iload_n hx hb dX0_raiseHeights_30 rfl (lv_at hl 1 rfl) ?_
        refine lv_aload_n hx hb dX0_raiseHeights_31 rfl (lv_at hl 0 rfl) ?_
        refine va_get (D := D) (ci := 0) (v := .ref (a 9)) (C := RX0) (T := TX0) (N := 10) hx hb hts hinX0 hown hK hP 1 rfl rfl 6 (by decide) (hts (.fieldLink RX0 30 "LoopScheduler$Loop" "distances" "[I") (List.mem_of_getElem? (i := 5) rfl)) (fun _ h9 => h9) rfl dX0_raiseHeights_32 ?_
        refine lv_iload_n hx hb dX0_raiseHeights_35 rfl (lv_at hl 3 rfl) ?_
        refine z_ialdZ (f := Ldi L) (z := k) hx hb hK hP 9 0 rfl rfl (by omega) (by decide) dX0_raiseHeights_36 ?_
        refine z_mul (a := ((t : Nat) : Int)) (b := ((Ldi L k : Nat) : Int)) hx hb dX0_raiseHeights_37 ?_
        refine z_sub (a := ((h' (Lds L k)) + ((Ldl L k : Nat) : Int))) (b := (((t : Nat) : Int) * ((Ldi L k : Nat) : Int))) hx hb dX0_raiseHeights_38 ?_
        refine lv_istore (lv' := [(4, .int (iI (((h' (Lds L k)) + ((Ldl L k : Nat) : Int)) - (((t : Nat) : Int) * ((Ldi L k : Nat) : Int))))), (0, .ref (a 1)), (1, .int (iI ((t : Nat) : Int))), (2, .int (iI (bI b))), (3, .int (iI ((k : Nat) : Int)))]) hx hb dX0_raiseHeights_39 hl (by decide) rfl (fun ls hl => ?_)
        refine lv_iload hx hb dX0_raiseHeights_41 (lv_at hl 0 rfl) ?_
        refine lv_aload_n hx hb dX0_raiseHeights_43 rfl (lv_at hl 1 rfl) ?_
        refine va_get (D := D) (ci := 0) (v := .ref (a 10)) (C := RX0) (T := TX0) (N := 10) hx hb hts hinX0 hown hK hP 1 rfl rfl 7 (by decide) (hts (.fieldLink RX0 33 "LoopScheduler$Loop" "heights" "[I") (List.mem_of_getElem? (i := 2) rfl)) (fun _ h9 => h9) rfl dX0_raiseHeights_44 ?_
        refine lv_aload_n hx hb dX0_raiseHeights_47 rfl (lv_at hl 1 rfl) ?_
        refine va_get (D := D) (ci := 0) (v := .ref (a 6)) (C := RX0) (T := TX0) (N := 10) hx hb hts hinX0 hown hK hP 1 rfl rfl 3 (by decide) (hts (.fieldLink RX0 21 "LoopScheduler$Loop" "sources" "[I") (List.mem_of_getElem? (i := 6) rfl)) (fun _ h9 => h9) rfl dX0_raiseHeights_48 ?_
        refine lv_iload_n hx hb dX0_raiseHeights_51 rfl (lv_at hl 4 rfl) ?_
        refine z_ialdZ (f := Lsr L) (z := k) hx hb hK hP 6 0 rfl rfl (by omega) (by decide) dX0_raiseHeights_52 ?_
        refine z_ialdN (f := h') (z := Lsr L k) hx hb hK hP 10 0 rfl rfl (by omega) (by decide) dX0_raiseHeights_53 ?_
        refine z_icle (a := (((h' (Lds L k)) + ((Ldl L k : Nat) : Int)) - (((t : Nat) : Int) * ((Ldi L k : Nat) : Int)))) (b := (h' (Lsr L k))) (tgt := 72) hx hb dX0_raiseHeights_54 (by decide) (by omega) (fun c_54 => ?_) (fun c_54 => ?_)
        · refine z_iinc (a := ((k : Nat) : Int)) (b := ((k + 1 : Nat) : Int)) (lv' := [(3, .int (iI ((k + 1 : Nat) : Int))), (4, .int (iI (((h' (Lds L k)) + ((Ldl L k : Nat) : Int)) - (((t : Nat) : Int) * ((Ldi L k : Nat) : Int))))), (0, .ref (a 1)), (1, .int (iI ((t : Nat) : Int))), (2, .int (iI (bI b)))]) hx hb 4 dX0_raiseHeights_72 hl rfl rfl (by decide) rfl (fun ls hl => ?_)
          refine lv_goto (tgt := 4) hx hb dX0_raiseHeights_75 (by decide) ?_
          exact ih4 (k + 1) h' b _ _ _ (by omega) (by omega) (by rw [gr_s, hi]; exact gr1_f (by omega)) hP hD hS (lv_sub hl [2, 3, 4, 0] rfl)
        · refine lv_aload_n hx hb dX0_raiseHeights_57 rfl (lv_at hl 1 rfl) ?_
          refine va_get (D := D) (ci := 0) (v := .ref (a 10)) (C := RX0) (T := TX0) (N := 10) hx hb hts hinX0 hown hK hP 1 rfl rfl 7 (by decide) (hts (.fieldLink RX0 33 "LoopScheduler$Loop" "heights" "[I") (List.mem_of_getElem? (i := 2) rfl)) (fun _ h9 => h9) rfl dX0_raiseHeights_58 ?_
          refine lv_aload_n hx hb dX0_raiseHeights_61 rfl (lv_at hl 1 rfl) ?_
          refine va_get (D := D) (ci := 0) (v := .ref (a 6)) (C := RX0) (T := TX0) (N := 10) hx hb hts hinX0 hown hK hP 1 rfl rfl 3 (by decide) (hts (.fieldLink RX0 21 "LoopScheduler$Loop" "sources" "[I") (List.mem_of_getElem? (i := 6) rfl)) (fun _ h9 => h9) rfl dX0_raiseHeights_62 ?_
          refine lv_iload_n hx hb dX0_raiseHeights_65 rfl (lv_at hl 4 rfl) ?_
          refine z_ialdZ (f := Lsr L) (z := k) hx hb hK hP 6 0 rfl rfl (by omega) (by decide) dX0_raiseHeights_66 ?_
          refine lv_iload hx hb dX0_raiseHeights_67 (lv_at hl 0 rfl) ?_
          refine z_iastN (f := h') (z := Lsr L k) (v := (((h' (Lds L k)) + ((Ldl L k : Nat) : Int)) - (((t : Nat) : Int) * ((Ldi L k : Nat) : Int)))) hx hb hK hP hD hS 10 0 rfl rfl (by omega) (by decide) dX0_raiseHeights_69 (fun H locs hP hD hS => ?_)
          have hP : va_P D vwCl (wX a g L att T (upZ h' (Lsr L k) (((h' (Lds L k)) + ((Ldl L k : Nat) : Int)) - (((t : Nat) : Int) * ((Ldi L k : Nat) : Int)))) tm tk lt) H := hP
          have hD : va_D A (wX a g L att T (upZ h' (Lsr L k) (((h' (Lds L k)) + ((Ldl L k : Nat) : Int)) - (((t : Nat) : Int) * ((Ldi L k : Nat) : Int)))) tm tk lt) := hD
          refine z_ic hx hb dX0_raiseHeights_70 ?_
          refine lv_istore_n (lv' := [(2, .int (iI ((1 : Nat) : Int))), (4, .int (iI (((h' (Lds L k)) + ((Ldl L k : Nat) : Int)) - (((t : Nat) : Int) * ((Ldi L k : Nat) : Int))))), (0, .ref (a 1)), (1, .int (iI ((t : Nat) : Int))), (3, .int (iI ((k : Nat) : Int)))]) hx hb dX0_raiseHeights_71 rfl hl (by decide) rfl (fun ls hl => ?_)
          refine z_iinc (a := ((k : Nat) : Int)) (b := ((k + 1 : Nat) : Int)) (lv' := [(3, .int (iI ((k + 1 : Nat) : Int))), (2, .int (iI ((1 : Nat) : Int))), (4, .int (iI (((h' (Lds L k)) + ((Ldl L k : Nat) : Int)) - (((t : Nat) : Int) * ((Ldi L k : Nat) : Int))))), (0, .ref (a 1)), (1, .int (iI ((t : Nat) : Int)))]) hx hb 4 dX0_raiseHeights_72 hl rfl rfl (by decide) rfl (fun ls hl => ?_)
          refine lv_goto (tgt := 4) hx hb dX0_raiseHeights_75 (by decide) ?_
          exact ih4 (k + 1) (upZ h' (Lsr L k) (((h' (Lds L k)) + ((Ldl L k : Nat) : Int)) - (((t : Nat) : Int) * ((Ldi L k : Nat) : Int)))) true _ _ _ (by omega) (by omega) (by rw [gr_s, hi]; exact gr1_t (by omega)) hP hD hS (lv_sub hl [3, 4, 1, 0] rfl)
  exact loop4 ((Lm L - 0) + 1) 0 hs false _ _ _ (Nat.lt_succ_self _) (by omega) rfl hP hD hS (lv_sub hl [2, 3, 1, 0] rfl)
set_option maxHeartbeats 4000000 in
set_option maxRecDepth 100000 in
theorem c_X0_findHeights (l : Launch) (D : va_G) (g : Nat → ClassId) (a : Nat → Nat) (L : LD) (att T : Nat) (hs tm : Nat → Int) (tk : Nat → Nat → Int) (lt : Nat → Int) (t : Nat) (hw : wf L) (ht : t ≤ 255) : zMi l D (zT g) yX0_findHeights wsX0_findHeights 2 36 (wX a g L att T hs tm tk lt) [.ref (a 1), .int (iI ((t : Nat) : Int))] (fun r w1 => r = iI (bI (cv L t)) ∧ w1 = wX a g L att T (hF L t) tm tk lt) := by
  refine z_ofI (cc := cX0_findHeights) (maxL := 3) (ret := (some .boolean)) (by decide) rfl (Nat.le_of_ble_eq_true rfl) ?_
  intro p e s m args below meth c A ls hx hb hr hts hown hlocks hml hP hK hD hS hA hl Q hQ
  have hown : s.vm.findClass RX0 = some m.cls := hown
  have hinX0 : ∀ w ∈ u_ws RX0 TX0 10, w ∈ wsX0_findHeights := by decide +kernel
  have hl : lv_has ls 3 [(0, .ref (a 1)), (1, .int (iI ((t : Nat) : Int)))] := hl
  refine lv_aload_n hx hb dX0_findHeights_0 rfl (lv_at hl 0 rfl) ?_
  refine va_get (D := D) (ci := 0) (v := .ref (a 10)) (C := RX0) (T := TX0) (N := 10) hx hb hts hinX0 hown hK hP 1 rfl rfl 7 (by decide) (hts (.fieldLink RX0 33 "LoopScheduler$Loop" "heights" "[I") (List.mem_of_getElem? (i := 1) rfl)) (fun _ h9 => h9) rfl dX0_findHeights_1 ?_
  refine z_ic hx hb dX0_findHeights_4 ?_
  refine z_callv (va_runS (As := [.ref (a 10), .int (iI ((0 : Nat) : Int))]) (rest := []) ⟨hx, hb, hml, hown, hts⟩ (c_fill l D g (wX a g L att T hs tm tk lt) 10 14 (a 10) hs 0 rfl (by decide) _) (va_cwS 2 hts gX0_findHeights_J7_fill_53178 rfl rfl rfl (by decide +kernel) ⟨Nat.le_of_ble_eq_true rfl, Nat.le_of_ble_eq_true rfl⟩) (z_preS hK hP hD) rfl rfl hl.1 rfl (lv_room (Nat.le_of_ble_eq_true rfl)) dX0_findHeights_5 ⟨Nat.zero_le _, Nat.zero_le _⟩) hS hD hA (fun w1 H locs hw hP hD hS => ?_)
  subst hw
  have hP : va_P D vwCl (wX a g L att T (fun _ => 0) tm tk lt) H := hP
  have hD : va_D A (wX a g L att T (fun _ => 0) tm tk lt) := hD
  refine z_ic hx hb dX0_findHeights_8 ?_
  refine lv_istore_n (lv' := [(2, .int (iI ((0 : Nat) : Int))), (0, .ref (a 1)), (1, .int (iI ((t : Nat) : Int)))]) hx hb dX0_findHeights_9 rfl hl (by decide) rfl (fun ls hl => ?_)
  have loop10 : ∀ (n10 : Nat) (q : Nat) (H : Heap) (locs : List Loc) (ls : Array Slot), Ln L + 1 - q < n10 → (q ≤ Ln L + 1) → (∀ j, j < q → fl L t j = true) → va_P D vwCl (wX a g L att T (hit L t q) tm tk lt) H → va_D A (wX a g L att T (hit L t q) tm tk lt) → va_S A s.heap H locs → lv_has ls 3 [(0, .ref (a 1)), (1, .int (iI ((t : Nat) : Int))), (2, .int (iI ((q : Nat) : Int)))] → W p l e ({ frames := 2, cells := 0, slots := 0, locals := 36 } : Room) s m args below meth c H locs 0 0 Q (F0 m 10 ls []) := by
    intro n10
    induction n10 with
    | zero => exact fun _ H locs ls hn => absurd hn (Nat.not_lt_zero _)
    | succ n10 ih10 =>
      intro q H locs ls hn10 hq hfl hP hD hS hl
      have hwn := wf_n hw
      refine lv_iload_n hx hb dX0_findHeights_10 rfl (lv_at hl 2 rfl) ?_
      refine lv_aload_n hx hb dX0_findHeights_11 rfl (lv_at hl 0 rfl) ?_
      refine va_get (D := D) (ci := 0) (v := .int (iI ((Ln L : Nat) : Int))) (C := RX0) (T := TX0) (N := 10) hx hb hts hinX0 hown hK hP 1 rfl rfl 8 (by decide) (hts (.fieldLink RX0 36 "LoopScheduler$Loop" "operations" "I") (List.mem_of_getElem? (i := 2) rfl)) (fun _ h9 => h9) rfl dX0_findHeights_12 ?_
      refine z_icgt (a := ((q : Nat) : Int)) (b := ((Ln L : Nat) : Int)) (tgt := 34) hx hb dX0_findHeights_15 (by decide) (by omega) (fun c_15 => ?_) (fun c_15 => ?_)
      · obtain rfl : q = Ln L + 1 := by omega
        refine z_ic hx hb dX0_findHeights_34 ?_
        exact z_zret (w := (wX a g L att T (hit L t (Ln L + 1)) tm tk lt)) (v := (iI ((0 : Nat) : Int))) z_nb0 hQ hx hb hr hlocks ⟨by unfold cv; rw [hfl (Ln L) (Nat.lt_succ_self _)]; rfl, rfl⟩ hK hP hD hS dX0_findHeights_35
      · refine lv_aload_n hx hb dX0_findHeights_18 rfl (lv_at hl 0 rfl) ?_
        refine lv_iload_n hx hb dX0_findHeights_19 rfl (lv_at hl 1 rfl) ?_
        refine z_calli (va_runV (As := [.int (iI ((t : Nat) : Int))]) (rest := []) ⟨hx, hb, hml, hown, hts⟩ (c_X0_raiseHeights l D g a L att T (hit L t q) tm tk lt t (480 * (q : Int)) hw ht (by have := wf_n hw; omega) (hit_bd hw t q) _) (cwV 1 hts gX0_findHeights_X0_raiseHeights rfl rfl rfl (by decide +kernel) ⟨Nat.le_of_ble_eq_true rfl, Nat.le_of_ble_eq_true rfl⟩) (z_preV 1 hK hP hD rfl rfl) rfl rfl hl.1 rfl (lv_room (Nat.le_of_ble_eq_true rfl)) dX0_findHeights_20 ⟨Nat.zero_le _, Nat.zero_le _⟩) hS hD hA (fun r w1 H locs hw hP hD hS => ?_)
        obtain ⟨rfl, rfl⟩ := hw
        have hP : va_P D vwCl (wX a g L att T (hit L t (q + 1)) tm tk lt) H := hP
        have hD : va_D A (wX a g L att T (hit L t (q + 1)) tm tk lt) := hD
        refine z_ifne (a := (bI (fl L t q))) (tgt := 28) hx hb dX0_findHeights_23 (by decide) (bI_r _) (fun c_23 => ?_) (fun c_23 => ?_)
        · refine z_iinc (a := ((q : Nat) : Int)) (b := ((q + 1 : Nat) : Int)) (lv' := [(2, .int (iI ((q + 1 : Nat) : Int))), (0, .ref (a 1)), (1, .int (iI ((t : Nat) : Int)))]) hx hb 2 dX0_findHeights_28 hl rfl rfl (by decide) rfl (fun ls hl => ?_)
          refine lv_goto (tgt := 10) hx hb dX0_findHeights_31 (by decide) ?_
          exact ih10 (q + 1) _ _ _ (by omega) (by omega) (fun j h => (Nat.lt_or_ge j q).elim (hfl j) (fun e => (show q = j by omega) ▸ bI_t c_23)) hP hD hS (lv_sub hl [1, 2, 0] rfl)
        · refine z_ic hx hb dX0_findHeights_26 ?_
          exact z_zret (w := (wX a g L att T (hit L t (q + 1)) tm tk lt)) (v := (iI ((1 : Nat) : Int))) z_nb1 hQ hx hb hr hlocks ⟨by rw [(fl_end (t := t) (r := q) (by omega) (bI_f c_23)).1]; rfl, by rw [(fl_end (t := t) (r := q) (by omega) (bI_f c_23)).2]⟩ hK hP hD hS dX0_findHeights_27
  exact loop10 ((Ln L + 1 - 0) + 1) 0 _ _ _ (Nat.lt_succ_self _) (by omega) (fun j h => absurd h (Nat.not_lt_zero j)) hP hD hS (lv_sub hl [1, 2, 0] rfl)
set_option maxHeartbeats 4000000 in
set_option maxRecDepth 100000 in
theorem c_X0_leastIntervalOfRecurrences (l : Launch) (D : va_G) (g : Nat → ClassId) (a : Nat → Nat) (L : LD) (att T : Nat) (hs tm : Nat → Int) (tk : Nat → Nat → Int) (lt : Nat → Int)  (hw : wf L) : zMi l D (zT g) yX0_leastIntervalOfRecurrences wsX0_leastIntervalOfRecurrences 3 58 (wX a g L att T hs tm tk lt) [.ref (a 1)] (fun r w1 => r = iI (rBz L) ∧ ∃ h', w1 = wX a g L att T h' tm tk lt) := by
  refine z_ofI (cc := cX0_leastIntervalOfRecurrences) (maxL := 3) (ret := (some .int)) (by decide) rfl (Nat.le_of_ble_eq_true rfl) ?_
  intro p e s m args below meth c A ls hx hb hr hts hown hlocks hml hP hK hD hS hA hl Q hQ
  have hown : s.vm.findClass RX0 = some m.cls := hown
  have hinX0 : ∀ w ∈ u_ws RX0 TX0 10, w ∈ wsX0_leastIntervalOfRecurrences := by decide +kernel
  have hl : lv_has ls 3 [(0, .ref (a 1))] := hl
  refine z_ic hx hb dX0_leastIntervalOfRecurrences_0 ?_
  refine lv_istore_n (lv' := [(1, .int (iI ((0 : Nat) : Int))), (0, .ref (a 1))]) hx hb dX0_leastIntervalOfRecurrences_1 rfl hl (by decide) rfl (fun ls hl => ?_)
  refine z_sip hx hb dX0_leastIntervalOfRecurrences_2 (by decide) ?_
  refine lv_istore_n (lv' := [(2, .int (iI ((128 : Nat) : Int))), (1, .int (iI ((0 : Nat) : Int))), (0, .ref (a 1))]) hx hb dX0_leastIntervalOfRecurrences_5 rfl hl (by decide) rfl (fun ls hl => ?_)
  have loop6 : ∀ (n6 : Nat) (i : Nat) (h' : Nat → Int) (H : Heap) (locs : List Loc) (ls : Array Slot), 9 - i < n6 → (i < 9) → va_P D vwCl (wX a g L att T h' tm tk lt) H → va_D A (wX a g L att T h' tm tk lt) → va_S A s.heap H locs → lv_has ls 3 [(0, .ref (a 1)), (1, .int (iI ((hv L i : Nat) : Int))), (2, .int (iI ((128 / 2 ^ i : Nat) : Int)))] → W p l e ({ frames := 3, cells := 0, slots := 0, locals := 58 } : Room) s m args below meth c H locs 0 0 Q (F0 m 6 ls []) := by
    intro n6
    induction n6 with
    | zero => exact fun _ _ H locs ls hn => absurd hn (Nat.not_lt_zero _)
    | succ n6 ih6 =>
      intro i h' H locs ls hn6 hi hP hD hS hl
      have hpw := pw_all i hi
      have hbd := hv_bd L i hi
      refine lv_iload_n hx hb dX0_leastIntervalOfRecurrences_6 rfl (lv_at hl 2 rfl) ?_
      refine z_ifle (a := ((128 / 2 ^ i : Nat) : Int)) (tgt := 31) hx hb dX0_leastIntervalOfRecurrences_7 (by decide) (by omega) (fun c_7 => ?_) (fun c_7 => ?_)
      · obtain rfl : i = 8 := by omega
        refine lv_iload_n hx hb dX0_leastIntervalOfRecurrences_31 rfl (lv_at hl 1 rfl) ?_
        refine z_sip hx hb dX0_leastIntervalOfRecurrences_32 (by decide) ?_
        refine z_icge (a := ((hv L 8 : Nat) : Int)) (b := 200) (tgt := 44) hx hb dX0_leastIntervalOfRecurrences_35 (by decide) (by omega) (fun c_35 => ?_) (fun c_35 => ?_)
        · refine z_ic hx hb dX0_leastIntervalOfRecurrences_44 ?_
          exact z_iret (w := (wX a g L att T h' tm tk lt)) (v := (iI (-1))) hQ hx hb hr hlocks ⟨by unfold rBz; rw [if_neg (by omega)], _, rfl⟩ hK hP hD hS dX0_leastIntervalOfRecurrences_45
        · refine lv_iload_n hx hb dX0_leastIntervalOfRecurrences_38 rfl (lv_at hl 1 rfl) ?_
          refine z_ic hx hb dX0_leastIntervalOfRecurrences_39 ?_
          refine z_add (a := ((hv L 8 : Nat) : Int)) (b := 1) hx hb dX0_leastIntervalOfRecurrences_40 ?_
          refine z_eqI (y := iI ((hv L 8 + 1 : Nat) : Int)) (congrArg iI (by omega)) ?_
          refine lv_goto (tgt := 45) hx hb dX0_leastIntervalOfRecurrences_41 (by decide) ?_
          exact z_iret (w := (wX a g L att T h' tm tk lt)) (v := (iI ((hv L 8 + 1 : Nat) : Int))) hQ hx hb hr hlocks ⟨by unfold rBz; rw [if_pos (by omega)], _, rfl⟩ hK hP hD hS dX0_leastIntervalOfRecurrences_45
      · refine lv_aload_n hx hb dX0_leastIntervalOfRecurrences_10 rfl (lv_at hl 0 rfl) ?_
        refine lv_iload_n hx hb dX0_leastIntervalOfRecurrences_11 rfl (lv_at hl 1 rfl) ?_
        refine lv_iload_n hx hb dX0_leastIntervalOfRecurrences_12 rfl (lv_at hl 2 rfl) ?_
        refine z_add (a := ((hv L i : Nat) : Int)) (b := ((128 / 2 ^ i : Nat) : Int)) hx hb dX0_leastIntervalOfRecurrences_13 ?_
        refine z_eqI (y := iI ((hv L i + 128 / 2 ^ i : Nat) : Int)) (congrArg iI (by omega)) ?_
        refine z_calli (va_runV (As := [.int (iI ((hv L i + 128 / 2 ^ i : Nat) : Int))]) (rest := []) ⟨hx, hb, hml, hown, hts⟩ (c_X0_findHeights l D g a L att T h' tm tk lt (hv L i + 128 / 2 ^ i) hw (by omega) _) (cwV 1 hts gX0_leastIntervalOfRecurrences_X0_findHeights rfl rfl rfl (by decide +kernel) ⟨Nat.le_of_ble_eq_true rfl, Nat.le_of_ble_eq_true rfl⟩) (z_preV 1 hK hP hD rfl rfl) rfl rfl hl.1 rfl (lv_room (Nat.le_of_ble_eq_true rfl)) dX0_leastIntervalOfRecurrences_14 ⟨Nat.zero_le _, Nat.zero_le _⟩) hS hD hA (fun r w1 H locs hw hP hD hS => ?_)
        obtain ⟨rfl, rfl⟩ := hw
        refine z_ifne (a := (bI (cv L (hv L i + 128 / 2 ^ i)))) (tgt := 24) hx hb dX0_leastIntervalOfRecurrences_17 (by decide) (bI_r _) (fun c_17 => ?_) (fun c_17 => ?_)
        · have c_17 := bI_t c_17
          refine lv_iload_n hx hb dX0_leastIntervalOfRecurrences_24 rfl (lv_at hl 2 rfl) ?_
          refine z_ic hx hb dX0_leastIntervalOfRecurrences_25 ?_
          refine z_div (a := ((128 / 2 ^ i : Nat) : Int)) (b := 2) hx hb (by omega) dX0_leastIntervalOfRecurrences_26 ?_
          refine z_eqI (y := iI ((128 / 2 ^ i / 2 : Nat) : Int)) (congrArg iI (by omega)) ?_
          refine lv_istore_n (lv' := [(2, .int (iI ((128 / 2 ^ i / 2 : Nat) : Int))), (0, .ref (a 1)), (1, .int (iI ((hv L i : Nat) : Int)))]) hx hb dX0_leastIntervalOfRecurrences_27 rfl hl (by decide) rfl (fun ls hl => ?_)
          refine lv_goto (tgt := 6) hx hb dX0_leastIntervalOfRecurrences_28 (by decide) ?_
          exact ih6 (i + 1) (hF L (hv L i + 128 / 2 ^ i)) _ _ _ (by omega) (by omega) hP hD hS (by rw [show hv L (i + 1) = hv L i from hv_t c_17, show 128 / 2 ^ (i + 1) = 128 / 2 ^ i / 2 from hpw.2.2.2.symm]; exact lv_sub hl [1, 2, 0] rfl)
        · have c_17 := bI_f c_17
          refine lv_iload_n hx hb dX0_leastIntervalOfRecurrences_20 rfl (lv_at hl 1 rfl) ?_
          refine lv_iload_n hx hb dX0_leastIntervalOfRecurrences_21 rfl (lv_at hl 2 rfl) ?_
          refine z_add (a := ((hv L i : Nat) : Int)) (b := ((128 / 2 ^ i : Nat) : Int)) hx hb dX0_leastIntervalOfRecurrences_22 ?_
          refine z_eqI (y := iI ((hv L i + 128 / 2 ^ i : Nat) : Int)) (congrArg iI (by omega)) ?_
          refine lv_istore_n (lv' := [(1, .int (iI ((hv L i + 128 / 2 ^ i : Nat) : Int))), (0, .ref (a 1)), (2, .int (iI ((128 / 2 ^ i : Nat) : Int)))]) hx hb dX0_leastIntervalOfRecurrences_23 rfl hl (by decide) rfl (fun ls hl => ?_)
          refine lv_iload_n hx hb dX0_leastIntervalOfRecurrences_24 rfl (lv_at hl 2 rfl) ?_
          refine z_ic hx hb dX0_leastIntervalOfRecurrences_25 ?_
          refine z_div (a := ((128 / 2 ^ i : Nat) : Int)) (b := 2) hx hb (by omega) dX0_leastIntervalOfRecurrences_26 ?_
          refine z_eqI (y := iI ((128 / 2 ^ i / 2 : Nat) : Int)) (congrArg iI (by omega)) ?_
          refine lv_istore_n (lv' := [(2, .int (iI ((128 / 2 ^ i / 2 : Nat) : Int))), (1, .int (iI ((hv L i + 128 / 2 ^ i : Nat) : Int))), (0, .ref (a 1))]) hx hb dX0_leastIntervalOfRecurrences_27 rfl hl (by decide) rfl (fun ls hl => ?_)
          refine lv_goto (tgt := 6) hx hb dX0_leastIntervalOfRecurrences_28 (by decide) ?_
          exact ih6 (i + 1) (hF L (hv L i + 128 / 2 ^ i)) _ _ _ (by omega) (by omega) hP hD hS (by rw [show hv L (i + 1) = hv L i + 128 / 2 ^ i from hv_f c_17, show 128 / 2 ^ (i + 1) = 128 / 2 ^ i / 2 from hpw.2.2.2.symm]; exact lv_sub hl [2, 1, 0] rfl)
  exact loop6 ((9 - 0) + 1) 0 hs _ _ _ (Nat.lt_succ_self _) (by omega) hP hD hS (lv_sub hl [2, 1, 0] rfl)
set_option maxHeartbeats 4000000 in
set_option maxRecDepth 100000 in
theorem c_X0_busyCycles (l : Launch) (D : va_G) (g : Nat → ClassId) (a : Nat → Nat) (L : LD) (att T : Nat) (hs tm : Nat → Int) (tk : Nat → Nat → Int) (lt : Nat → Int) (x : Nat) (hw : wf L) (hx3 : x < 3) : zMi l D (zT g) yX0_busyCycles wsX0_busyCycles 1 12 (wX a g L att T hs tm tk lt) [.ref (a 1), .int (iI ((x : Nat) : Int))] (fun r w1 => r = iI ((bcs L x (Ln L) : Nat) : Int) ∧ w1 = wX a g L att T hs tm tk lt) := by
  refine z_ofI (cc := cX0_busyCycles) (maxL := 4) (ret := (some .int)) (by decide) rfl (Nat.le_of_ble_eq_true rfl) ?_
  intro p e s m args below meth c A ls hx hb hr hts hown hlocks hml hP hK hD hS hA hl Q hQ
  have hown : s.vm.findClass RX0 = some m.cls := hown
  have hinX0 : ∀ w ∈ u_ws RX0 TX0 10, w ∈ wsX0_busyCycles := by decide +kernel
  have hl : lv_has ls 4 [(0, .ref (a 1)), (1, .int (iI ((x : Nat) : Int)))] := hl
  refine z_ic hx hb dX0_busyCycles_0 ?_
  refine lv_istore_n (lv' := [(2, .int (iI ((0 : Nat) : Int))), (0, .ref (a 1)), (1, .int (iI ((x : Nat) : Int)))]) hx hb dX0_busyCycles_1 rfl hl (by decide) rfl (fun ls hl => ?_)
  refine z_ic hx hb dX0_busyCycles_2 ?_
  refine lv_istore_n (lv' := [(3, .int (iI ((0 : Nat) : Int))), (2, .int (iI ((0 : Nat) : Int))), (0, .ref (a 1)), (1, .int (iI ((x : Nat) : Int)))]) hx hb dX0_busyCycles_3 rfl hl (by decide) rfl (fun ls hl => ?_)
  have loop4 : ∀ (n4 : Nat) (i : Nat) (H : Heap) (locs : List Loc) (ls : Array Slot), Ln L - i < n4 → (i ≤ Ln L) → va_P D vwCl (wX a g L att T hs tm tk lt) H → va_D A (wX a g L att T hs tm tk lt) → va_S A s.heap H locs → lv_has ls 4 [(0, .ref (a 1)), (1, .int (iI ((x : Nat) : Int))), (2, .int (iI ((bcs L x i : Nat) : Int))), (3, .int (iI ((i : Nat) : Int)))] → W p l e ({ frames := 1, cells := 0, slots := 0, locals := 12 } : Room) s m args below meth c H locs 0 0 Q (F0 m 4 ls []) := by
    intro n4
    induction n4 with
    | zero => exact fun _ H locs ls hn => absurd hn (Nat.not_lt_zero _)
    | succ n4 ih4 =>
      intro i H locs ls hn4 hi hP hD hS hl
      have hwn := wf_n hw
      have hkd := wf_kd hw i
      have hby := wf_by hw i
      have hbb := bcs_bd hw x i
      refine lv_iload_n hx hb dX0_busyCycles_4 rfl (lv_at hl 3 rfl) ?_
      refine lv_aload_n hx hb dX0_busyCycles_5 rfl (lv_at hl 0 rfl) ?_
      refine va_get (D := D) (ci := 0) (v := .int (iI ((Ln L : Nat) : Int))) (C := RX0) (T := TX0) (N := 10) hx hb hts hinX0 hown hK hP 1 rfl rfl 8 (by decide) (hts (.fieldLink RX0 36 "LoopScheduler$Loop" "operations" "I") (List.mem_of_getElem? (i := 1) rfl)) (fun _ h9 => h9) rfl dX0_busyCycles_6 ?_
      refine z_icge (a := ((i : Nat) : Int)) (b := ((Ln L : Nat) : Int)) (tgt := 37) hx hb dX0_busyCycles_9 (by decide) (by omega) (fun c_9 => ?_) (fun c_9 => ?_)
      · obtain rfl : i = Ln L := by omega
        refine lv_iload_n hx hb dX0_busyCycles_37 rfl (lv_at hl 2 rfl) ?_
        exact z_iret (w := (wX a g L att T hs tm tk lt)) (v := (iI ((bcs L x (Ln L) : Nat) : Int))) hQ hx hb hr hlocks ⟨rfl, rfl⟩ hK hP hD hS dX0_busyCycles_38
      · refine lv_aload_n hx hb dX0_busyCycles_12 rfl (lv_at hl 0 rfl) ?_
        refine va_get (D := D) (ci := 0) (v := .ref (a 4)) (C := RX0) (T := TX0) (N := 10) hx hb hts hinX0 hown hK hP 1 rfl rfl 1 (by decide) (hts (.fieldLink RX0 15 "LoopScheduler$Loop" "kinds" "[I") (List.mem_of_getElem? (i := 2) rfl)) (fun _ h9 => h9) rfl dX0_busyCycles_13 ?_
        refine lv_iload_n hx hb dX0_busyCycles_16 rfl (lv_at hl 3 rfl) ?_
        refine z_ialdZ (f := Lkd L) (z := i) hx hb hK hP 4 0 rfl rfl (by omega) (by decide) dX0_busyCycles_17 ?_
        refine lv_iload_n hx hb dX0_busyCycles_18 rfl (lv_at hl 1 rfl) ?_
        refine z_icne (a := ((Lkd L i : Nat) : Int)) (b := ((x : Nat) : Int)) (tgt := 31) hx hb dX0_busyCycles_19 (by decide) (by omega) (fun c_19 => ?_) (fun c_19 => ?_)
        · have hl : lv_has ls 4 [(0, .ref (a 1)), (1, .int (iI ((x : Nat) : Int))), (2, .int (iI ((bcs L x (i + 1) : Nat) : Int))), (3, .int (iI ((i : Nat) : Int)))] := by rw [show (bcs L x (i + 1) : Nat) = bcs L x i from bcs_f (by omega)]; exact hl
          refine z_iinc (a := ((i : Nat) : Int)) (b := ((i + 1 : Nat) : Int)) (lv' := [(3, .int (iI ((i + 1 : Nat) : Int))), (0, .ref (a 1)), (1, .int (iI ((x : Nat) : Int))), (2, .int (iI ((bcs L x (i + 1) : Nat) : Int)))]) hx hb 3 dX0_busyCycles_31 hl rfl rfl (by decide) rfl (fun ls hl => ?_)
          refine lv_goto (tgt := 4) hx hb dX0_busyCycles_34 (by decide) ?_
          exact ih4 (i + 1) _ _ _ (by omega) (by omega) hP hD hS (lv_sub hl [1, 2, 3, 0] rfl)
        · refine lv_iload_n hx hb dX0_busyCycles_22 rfl (lv_at hl 2 rfl) ?_
          refine lv_aload_n hx hb dX0_busyCycles_23 rfl (lv_at hl 0 rfl) ?_
          refine va_get (D := D) (ci := 0) (v := .ref (a 5)) (C := RX0) (T := TX0) (N := 10) hx hb hts hinX0 hown hK hP 1 rfl rfl 2 (by decide) (hts (.fieldLink RX0 18 "LoopScheduler$Loop" "busy" "[I") (List.mem_of_getElem? (i := 3) rfl)) (fun _ h9 => h9) rfl dX0_busyCycles_24 ?_
          refine lv_iload_n hx hb dX0_busyCycles_27 rfl (lv_at hl 3 rfl) ?_
          refine z_ialdZ (f := Lby L) (z := i) hx hb hK hP 5 0 rfl rfl (by omega) (by decide) dX0_busyCycles_28 ?_
          refine z_add (a := ((bcs L x i : Nat) : Int)) (b := ((Lby L i : Nat) : Int)) hx hb dX0_busyCycles_29 ?_
          refine z_eqI (y := iI ((bcs L x (i + 1) : Nat) : Int)) (congrArg iI (by rw [bcs_t (show Lkd L i = x by omega)]; omega)) ?_
          refine lv_istore_n (lv' := [(2, .int (iI ((bcs L x (i + 1) : Nat) : Int))), (0, .ref (a 1)), (1, .int (iI ((x : Nat) : Int))), (3, .int (iI ((i : Nat) : Int)))]) hx hb dX0_busyCycles_30 rfl hl (by decide) rfl (fun ls hl => ?_)
          refine z_iinc (a := ((i : Nat) : Int)) (b := ((i + 1 : Nat) : Int)) (lv' := [(3, .int (iI ((i + 1 : Nat) : Int))), (2, .int (iI ((bcs L x (i + 1) : Nat) : Int))), (0, .ref (a 1)), (1, .int (iI ((x : Nat) : Int)))]) hx hb 3 dX0_busyCycles_31 hl rfl rfl (by decide) rfl (fun ls hl => ?_)
          refine lv_goto (tgt := 4) hx hb dX0_busyCycles_34 (by decide) ?_
          exact ih4 (i + 1) _ _ _ (by omega) (by omega) hP hD hS (lv_sub hl [2, 3, 1, 0] rfl)
  exact loop4 ((Ln L - 0) + 1) 0 _ _ _ (Nat.lt_succ_self _) (by omega) hP hD hS (lv_sub hl [2, 3, 1, 0] rfl)
set_option maxHeartbeats 4000000 in
set_option maxRecDepth 100000 in
theorem c_X0_leastIntervalOfResources (l : Launch) (D : va_G) (g : Nat → ClassId) (a : Nat → Nat) (L : LD) (att T : Nat) (hs tm : Nat → Int) (tk : Nat → Nat → Int) (lt : Nat → Int)  (hw : wf L) : zMi l D (zT g) yX0_leastIntervalOfResources wsX0_leastIntervalOfResources 2 35 (wX a g L att T hs tm tk lt) [.ref (a 1)] (fun r w1 => r = iI ((rs L : Nat) : Int) ∧ w1 = wX a g L att T hs tm tk lt) := by
  refine z_ofI (cc := cX0_leastIntervalOfResources) (maxL := 3) (ret := (some .int)) (by decide) rfl (Nat.le_of_ble_eq_true rfl) ?_
  intro p e s m args below meth c A ls hx hb hr hts hown hlocks hml hP hK hD hS hA hl Q hQ
  have hown : s.vm.findClass RX0 = some m.cls := hown
  have hinX0 : ∀ w ∈ u_ws RX0 TX0 10, w ∈ wsX0_leastIntervalOfResources := by decide +kernel
  have hl : lv_has ls 3 [(0, .ref (a 1))] := hl
  refine z_ic hx hb dX0_leastIntervalOfResources_0 ?_
  refine lv_istore_n (lv' := [(1, .int (iI ((1 : Nat) : Int))), (0, .ref (a 1))]) hx hb dX0_leastIntervalOfResources_1 rfl hl (by decide) rfl (fun ls hl => ?_)
  refine z_ic hx hb dX0_leastIntervalOfResources_2 ?_
  refine lv_istore_n (lv' := [(2, .int (iI ((0 : Nat) : Int))), (1, .int (iI ((1 : Nat) : Int))), (0, .ref (a 1))]) hx hb dX0_leastIntervalOfResources_3 rfl hl (by decide) rfl (fun ls hl => ?_)
  have loop4 : ∀ (n4 : Nat) (k : Nat) (H : Heap) (locs : List Loc) (ls : Array Slot), 3 - k < n4 → (k ≤ 3) → va_P D vwCl (wX a g L att T hs tm tk lt) H → va_D A (wX a g L att T hs tm tk lt) → va_S A s.heap H locs → lv_has ls 3 [(0, .ref (a 1)), (1, .int (iI ((rsk L k : Nat) : Int))), (2, .int (iI ((k : Nat) : Int)))] → W p l e ({ frames := 2, cells := 0, slots := 0, locals := 35 } : Room) s m args below meth c H locs 0 0 Q (F0 m 4 ls []) := by
    intro n4
    induction n4 with
    | zero => exact fun _ H locs ls hn => absurd hn (Nat.not_lt_zero _)
    | succ n4 ih4 =>
      intro k H locs ls hn4 hk hP hD hS hl
      have hu := wf_u hw k
      have hwn := wf_n hw
      have hbb := bcs_bd hw k (Ln L)
      have hrb := rsk_bd hw k
      have hrb2 := rsk_bd hw (k + 1)
      have hq0 := Int.natCast_nonneg ((bcs L k (Ln L) + Lu L k - 1) / Lu L k)
      have hdv : (bcs L k (Ln L) + Lu L k - 1) / Lu L k ≤ rsk L (k + 1) := Nat.le_max_right _ _
      refine lv_iload_n hx hb dX0_leastIntervalOfResources_4 rfl (lv_at hl 2 rfl) ?_
      refine z_ic hx hb dX0_leastIntervalOfResources_5 ?_
      refine z_icge (a := ((k : Nat) : Int)) (b := 3) (tgt := 41) hx hb dX0_leastIntervalOfResources_6 (by decide) (by omega) (fun c_6 => ?_) (fun c_6 => ?_)
      · obtain rfl : k = 3 := by omega
        refine lv_iload_n hx hb dX0_leastIntervalOfResources_41 rfl (lv_at hl 1 rfl) ?_
        exact z_iret (w := (wX a g L att T hs tm tk lt)) (v := (iI ((rsk L 3 : Nat) : Int))) hQ hx hb hr hlocks ⟨rfl, rfl⟩ hK hP hD hS dX0_leastIntervalOfResources_42
      · refine lv_iload_n hx hb dX0_leastIntervalOfResources_9 rfl (lv_at hl 1 rfl) ?_
        refine lv_aload_n hx hb dX0_leastIntervalOfResources_10 rfl (lv_at hl 0 rfl) ?_
        refine lv_iload_n hx hb dX0_leastIntervalOfResources_11 rfl (lv_at hl 2 rfl) ?_
        refine z_calli (va_runV (As := [.int (iI ((k : Nat) : Int))]) (rest := [.int (iI ((rsk L k : Nat) : Int))]) ⟨hx, hb, hml, hown, hts⟩ (c_X0_busyCycles l D g a L att T hs tm tk lt k hw (by omega) _) (cwV 1 hts gX0_leastIntervalOfResources_X0_busyCycles rfl rfl rfl (by decide +kernel) ⟨Nat.le_of_ble_eq_true rfl, Nat.le_of_ble_eq_true rfl⟩) (z_preV 1 hK hP hD rfl rfl) rfl rfl hl.1 rfl (lv_room (Nat.le_of_ble_eq_true rfl)) dX0_leastIntervalOfResources_12 ⟨Nat.zero_le _, Nat.zero_le _⟩) hS hD hA (fun r w1 H locs hw hP hD hS => ?_)
        obtain ⟨rfl, rfl⟩ := hw
        refine lv_aload_n hx hb dX0_leastIntervalOfResources_15 rfl (lv_at hl 0 rfl) ?_
        refine va_get (D := D) (ci := 0) (v := .ref (a 3)) (C := RX0) (T := TX0) (N := 10) hx hb hts hinX0 hown hK hP 1 rfl rfl 0 (by decide) (hts (.fieldLink RX0 9 "LoopScheduler$Loop" "units" "[I") (List.mem_of_getElem? (i := 1) rfl)) (fun _ h9 => h9) rfl dX0_leastIntervalOfResources_16 ?_
        refine lv_iload_n hx hb dX0_leastIntervalOfResources_19 rfl (lv_at hl 2 rfl) ?_
        refine z_ialdZ (f := Lu L) (z := k) hx hb hK hP 3 0 rfl rfl (by omega) (by decide) dX0_leastIntervalOfResources_20 ?_
        refine z_add (a := ((bcs L k (Ln L) : Nat) : Int)) (b := ((Lu L k : Nat) : Int)) hx hb dX0_leastIntervalOfResources_21 ?_
        refine z_ic hx hb dX0_leastIntervalOfResources_22 ?_
        refine z_sub (a := (((bcs L k (Ln L) : Nat) : Int) + ((Lu L k : Nat) : Int))) (b := 1) hx hb dX0_leastIntervalOfResources_23 ?_
        refine lv_aload_n hx hb dX0_leastIntervalOfResources_24 rfl (lv_at hl 0 rfl) ?_
        refine va_get (D := D) (ci := 0) (v := .ref (a 3)) (C := RX0) (T := TX0) (N := 10) hx hb hts hinX0 hown hK hP 1 rfl rfl 0 (by decide) (hts (.fieldLink RX0 9 "LoopScheduler$Loop" "units" "[I") (List.mem_of_getElem? (i := 1) rfl)) (fun _ h9 => h9) rfl dX0_leastIntervalOfResources_25 ?_
        refine lv_iload_n hx hb dX0_leastIntervalOfResources_28 rfl (lv_at hl 2 rfl) ?_
        refine z_ialdZ (f := Lu L) (z := k) hx hb hK hP 3 0 rfl rfl (by omega) (by decide) dX0_leastIntervalOfResources_29 ?_
        refine z_div (a := ((((bcs L k (Ln L) : Nat) : Int) + ((Lu L k : Nat) : Int)) - 1)) (b := ((Lu L k : Nat) : Int)) hx hb (by omega) dX0_leastIntervalOfResources_30 ?_
        refine z_eqI (y := iI (((bcs L k (Ln L) + Lu L k - 1) / Lu L k : Nat) : Int)) (congrArg iI (by rw [Int.natCast_ediv]; congr 1; omega)) ?_
        refine z_mmax (a := ((rsk L k : Nat) : Int)) (b := (((bcs L k (Ln L) + Lu L k - 1) / Lu L k : Nat) : Int)) hx hb hml hl.1 hown (hts (.methodLink RX0 47 Lib.Math.max.name) (List.mem_of_getElem? (i := 2) rfl)) (hts (.static Lib.Math.max.name) (List.mem_of_getElem? (i := 3) rfl)) (hts (.initialized "java/lang/Math") (List.mem_of_getElem? (i := 4) rfl)) (hts (.code Lib.Math.max.name Lib.Math.max.code 2 (some .int)) (List.mem_of_getElem? (i := 5) rfl)) (Nat.le_of_ble_eq_true rfl) (Nat.le_of_ble_eq_true rfl) (Nat.zero_le _) (Nat.zero_le _) (by omega) dX0_leastIntervalOfResources_31 ?_
        refine z_eqI (y := iI ((rsk L (k + 1) : Nat) : Int)) (congrArg iI (by show max _ _ = ((max _ _ : Nat) : Int); omega)) ?_
        refine lv_istore_n (lv' := [(1, .int (iI ((rsk L (k + 1) : Nat) : Int))), (0, .ref (a 1)), (2, .int (iI ((k : Nat) : Int)))]) hx hb dX0_leastIntervalOfResources_34 rfl hl (by decide) rfl (fun ls hl => ?_)
        refine z_iinc (a := ((k : Nat) : Int)) (b := ((k + 1 : Nat) : Int)) (lv' := [(2, .int (iI ((k + 1 : Nat) : Int))), (1, .int (iI ((rsk L (k + 1) : Nat) : Int))), (0, .ref (a 1))]) hx hb 2 dX0_leastIntervalOfResources_35 hl rfl rfl (by decide) rfl (fun ls hl => ?_)
        refine lv_goto (tgt := 4) hx hb dX0_leastIntervalOfResources_38 (by decide) ?_
        exact ih4 (k + 1) _ _ _ (by omega) (by omega) hP hD hS (lv_sub hl [2, 1, 0] rfl)
  exact loop4 ((3 - 0) + 1) 0 _ _ _ (Nat.lt_succ_self _) (by omega) hP hD hS (lv_sub hl [2, 1, 0] rfl)
set_option maxHeartbeats 4000000 in
set_option maxRecDepth 100000 in
theorem c_X0_appendOperation (l : Launch) (D : va_G) (g : Nat → ClassId) (a : Nat → Nat) (L : LD) (att T : Nat) (hs tm : Nat → Int) (tk : Nat → Nat → Int) (lt : Nat → Int) (kd by_ : Nat) (hn : Ln L < 14) : zMi l D (zT g) yX0_appendOperation wsX0_appendOperation 1 12 (wX a g L att T hs tm tk lt) [.ref (a 1), .int (iI ((kd : Nat) : Int)), .int (iI ((by_ : Nat) : Int))] (fun r w1 => r = iI ((Ln L : Nat) : Int) ∧ w1 = wX a g (Ln L + 1, Lm L, Lu L, upN (Lkd L) (Ln L) kd, upN (Lby L) (Ln L) by_, Lsr L, Lds L, Ldl L, Ldi L) att T hs tm tk lt) := by
  refine z_ofI (cc := cX0_appendOperation) (maxL := 3) (ret := (some .int)) (by decide) rfl (Nat.le_of_ble_eq_true rfl) ?_
  intro p e s m args below meth c A ls hx hb hr hts hown hlocks hml hP hK hD hS hA hl Q hQ
  have hown : s.vm.findClass RX0 = some m.cls := hown
  have hinX0 : ∀ w ∈ u_ws RX0 TX0 10, w ∈ wsX0_appendOperation := by decide +kernel
  have hl : lv_has ls 3 [(0, .ref (a 1)), (1, .int (iI ((kd : Nat) : Int))), (2, .int (iI ((by_ : Nat) : Int)))] := hl
  refine lv_aload_n hx hb dX0_appendOperation_0 rfl (lv_at hl 0 rfl) ?_
  refine va_get (D := D) (ci := 0) (v := .ref (a 4)) (C := RX0) (T := TX0) (N := 10) hx hb hts hinX0 hown hK hP 1 rfl rfl 1 (by decide) (hts (.fieldLink RX0 15 "LoopScheduler$Loop" "kinds" "[I") (List.mem_of_getElem? (i := 1) rfl)) (fun _ h9 => h9) rfl dX0_appendOperation_1 ?_
  refine lv_aload_n hx hb dX0_appendOperation_4 rfl (lv_at hl 0 rfl) ?_
  refine va_get (D := D) (ci := 0) (v := .int (iI ((Ln L : Nat) : Int))) (C := RX0) (T := TX0) (N := 10) hx hb hts hinX0 hown hK hP 1 rfl rfl 8 (by decide) (hts (.fieldLink RX0 36 "LoopScheduler$Loop" "operations" "I") (List.mem_of_getElem? (i := 2) rfl)) (fun _ h9 => h9) rfl dX0_appendOperation_5 ?_
  refine lv_iload_n hx hb dX0_appendOperation_8 rfl (lv_at hl 1 rfl) ?_
  refine z_iastZ (f := Lkd L) (z := Ln L) (v := kd) hx hb hK hP hD hS 4 0 rfl rfl (by omega) (by decide) dX0_appendOperation_9 (fun H locs hP hD hS => ?_)
  have hP : va_P D vwCl (wX a g (Ln L, Lm L, Lu L, upN (Lkd L) (Ln L) kd, Lby L, Lsr L, Lds L, Ldl L, Ldi L) att T hs tm tk lt) H := hP
  have hD : va_D A (wX a g (Ln L, Lm L, Lu L, upN (Lkd L) (Ln L) kd, Lby L, Lsr L, Lds L, Ldl L, Ldi L) att T hs tm tk lt) := hD
  refine lv_aload_n hx hb dX0_appendOperation_10 rfl (lv_at hl 0 rfl) ?_
  refine va_get (D := D) (ci := 0) (v := .ref (a 5)) (C := RX0) (T := TX0) (N := 10) hx hb hts hinX0 hown hK hP 1 rfl rfl 2 (by decide) (hts (.fieldLink RX0 18 "LoopScheduler$Loop" "busy" "[I") (List.mem_of_getElem? (i := 3) rfl)) (fun _ h9 => h9) rfl dX0_appendOperation_11 ?_
  refine lv_aload_n hx hb dX0_appendOperation_14 rfl (lv_at hl 0 rfl) ?_
  refine va_get (D := D) (ci := 0) (v := .int (iI ((Ln L : Nat) : Int))) (C := RX0) (T := TX0) (N := 10) hx hb hts hinX0 hown hK hP 1 rfl rfl 8 (by decide) (hts (.fieldLink RX0 36 "LoopScheduler$Loop" "operations" "I") (List.mem_of_getElem? (i := 2) rfl)) (fun _ h9 => h9) rfl dX0_appendOperation_15 ?_
  refine lv_iload_n hx hb dX0_appendOperation_18 rfl (lv_at hl 2 rfl) ?_
  refine z_iastZ (f := Lby L) (z := Ln L) (v := by_) hx hb hK hP hD hS 5 0 rfl rfl (by omega) (by decide) dX0_appendOperation_19 (fun H locs hP hD hS => ?_)
  have hP : va_P D vwCl (wX a g (Ln L, Lm L, Lu L, upN (Lkd L) (Ln L) kd, upN (Lby L) (Ln L) by_, Lsr L, Lds L, Ldl L, Ldi L) att T hs tm tk lt) H := hP
  have hD : va_D A (wX a g (Ln L, Lm L, Lu L, upN (Lkd L) (Ln L) kd, upN (Lby L) (Ln L) by_, Lsr L, Lds L, Ldl L, Ldi L) att T hs tm tk lt) := hD
  refine lv_aload_n hx hb dX0_appendOperation_20 rfl (lv_at hl 0 rfl) ?_
  refine lv_dup hx hb dX0_appendOperation_21 rfl ?_
  refine va_get (D := D) (ci := 0) (v := .int (iI ((Ln L : Nat) : Int))) (C := RX0) (T := TX0) (N := 10) hx hb hts hinX0 hown hK hP 1 rfl rfl 8 (by decide) (hts (.fieldLink RX0 36 "LoopScheduler$Loop" "operations" "I") (List.mem_of_getElem? (i := 2) rfl)) (fun _ h9 => h9) rfl dX0_appendOperation_22 ?_
  refine z_ic hx hb dX0_appendOperation_25 ?_
  refine z_add (a := ((Ln L : Nat) : Int)) (b := 1) hx hb dX0_appendOperation_26 ?_
  refine z_eqI (y := iI ((Ln L + 1 : Nat) : Int)) (congrArg iI (by omega)) ?_
  refine va_put (D := D) (ci := 0) (v := .int (iI ((Ln L + 1 : Nat) : Int))) (ty := .int) (C := RX0) (T := TX0) (N := 10) hx hb hts hinX0 tyX0 tyX0_ok nmX0 hown hK hP hD hS 1 rfl rfl 8 (by decide) (hts (.fieldLink RX0 36 "LoopScheduler$Loop" "operations" "I") (List.mem_of_getElem? (i := 2) rfl)) (fun _ h9 => h9) rfl (by decide +kernel) rfl rfl (Nat.le_of_ble_eq_true rfl) dX0_appendOperation_27 (fun H locs hP hD hS => ?_)
  have hP : va_P D vwCl (wX a g (Ln L + 1, Lm L, Lu L, upN (Lkd L) (Ln L) kd, upN (Lby L) (Ln L) by_, Lsr L, Lds L, Ldl L, Ldi L) att T hs tm tk lt) H := hP
  have hD : va_D A (wX a g (Ln L + 1, Lm L, Lu L, upN (Lkd L) (Ln L) kd, upN (Lby L) (Ln L) by_, Lsr L, Lds L, Ldl L, Ldi L) att T hs tm tk lt) := hD
  refine lv_aload_n hx hb dX0_appendOperation_30 rfl (lv_at hl 0 rfl) ?_
  refine va_get (D := D) (ci := 0) (v := .int (iI ((Ln L + 1 : Nat) : Int))) (C := RX0) (T := TX0) (N := 10) hx hb hts hinX0 hown hK hP 1 rfl rfl 8 (by decide) (hts (.fieldLink RX0 36 "LoopScheduler$Loop" "operations" "I") (List.mem_of_getElem? (i := 2) rfl)) (fun _ h9 => h9) rfl dX0_appendOperation_31 ?_
  refine z_ic hx hb dX0_appendOperation_34 ?_
  refine z_sub (a := ((Ln L + 1 : Nat) : Int)) (b := 1) hx hb dX0_appendOperation_35 ?_
  refine z_eqI (y := iI ((Ln L : Nat) : Int)) (congrArg iI (by omega)) ?_
  exact z_iret (w := (wX a g (Ln L + 1, Lm L, Lu L, upN (Lkd L) (Ln L) kd, upN (Lby L) (Ln L) by_, Lsr L, Lds L, Ldl L, Ldi L) att T hs tm tk lt)) (v := (iI ((Ln L : Nat) : Int))) hQ hx hb hr hlocks ⟨rfl, rfl⟩ hK hP hD hS dX0_appendOperation_36
set_option maxHeartbeats 4000000 in
set_option maxRecDepth 100000 in
theorem c_X0_appendDependence (l : Launch) (D : va_G) (g : Nat → ClassId) (a : Nat → Nat) (L : LD) (att T : Nat) (hs tm : Nat → Int) (tk : Nat → Nat → Int) (lt : Nat → Int) (f t dl di : Nat) (hm : Lm L < 40) : zMi l D (zT g) yX0_appendDependence wsX0_appendDependence 1 12 (wX a g L att T hs tm tk lt) [.ref (a 1), .int (iI ((f : Nat) : Int)), .int (iI ((t : Nat) : Int)), .int (iI ((dl : Nat) : Int)), .int (iI ((di : Nat) : Int))] (fun r w1 => r = iI ((Lm L : Nat) : Int) ∧ w1 = wX a g (Ln L, Lm L + 1, Lu L, Lkd L, Lby L, upN (Lsr L) (Lm L) f, upN (Lds L) (Lm L) t, upN (Ldl L) (Lm L) dl, upN (Ldi L) (Lm L) di) att T hs tm tk lt) := by
  refine z_ofI (cc := cX0_appendDependence) (maxL := 5) (ret := (some .int)) (by decide) rfl (Nat.le_of_ble_eq_true rfl) ?_
  intro p e s m args below meth c A ls hx hb hr hts hown hlocks hml hP hK hD hS hA hl Q hQ
  have hown : s.vm.findClass RX0 = some m.cls := hown
  have hinX0 : ∀ w ∈ u_ws RX0 TX0 10, w ∈ wsX0_appendDependence := by decide +kernel
  have hl : lv_has ls 5 [(0, .ref (a 1)), (1, .int (iI ((f : Nat) : Int))), (2, .int (iI ((t : Nat) : Int))), (3, .int (iI ((dl : Nat) : Int))), (4, .int (iI ((di : Nat) : Int)))] := hl
  refine lv_aload_n hx hb dX0_appendDependence_0 rfl (lv_at hl 0 rfl) ?_
  refine va_get (D := D) (ci := 0) (v := .ref (a 6)) (C := RX0) (T := TX0) (N := 10) hx hb hts hinX0 hown hK hP 1 rfl rfl 3 (by decide) (hts (.fieldLink RX0 21 "LoopScheduler$Loop" "sources" "[I") (List.mem_of_getElem? (i := 1) rfl)) (fun _ h9 => h9) rfl dX0_appendDependence_1 ?_
  refine lv_aload_n hx hb dX0_appendDependence_4 rfl (lv_at hl 0 rfl) ?_
  refine va_get (D := D) (ci := 0) (v := .int (iI ((Lm L : Nat) : Int))) (C := RX0) (T := TX0) (N := 10) hx hb hts hinX0 hown hK hP 1 rfl rfl 9 (by decide) (hts (.fieldLink RX0 40 "LoopScheduler$Loop" "dependences" "I") (List.mem_of_getElem? (i := 2) rfl)) (fun _ h9 => h9) rfl dX0_appendDependence_5 ?_
  refine lv_iload_n hx hb dX0_appendDependence_8 rfl (lv_at hl 1 rfl) ?_
  refine z_iastZ (f := Lsr L) (z := Lm L) (v := f) hx hb hK hP hD hS 6 0 rfl rfl (by omega) (by decide) dX0_appendDependence_9 (fun H locs hP hD hS => ?_)
  have hP : va_P D vwCl (wX a g (Ln L, Lm L, Lu L, Lkd L, Lby L, upN (Lsr L) (Lm L) f, Lds L, Ldl L, Ldi L) att T hs tm tk lt) H := hP
  have hD : va_D A (wX a g (Ln L, Lm L, Lu L, Lkd L, Lby L, upN (Lsr L) (Lm L) f, Lds L, Ldl L, Ldi L) att T hs tm tk lt) := hD
  refine lv_aload_n hx hb dX0_appendDependence_10 rfl (lv_at hl 0 rfl) ?_
  refine va_get (D := D) (ci := 0) (v := .ref (a 7)) (C := RX0) (T := TX0) (N := 10) hx hb hts hinX0 hown hK hP 1 rfl rfl 4 (by decide) (hts (.fieldLink RX0 24 "LoopScheduler$Loop" "targets" "[I") (List.mem_of_getElem? (i := 3) rfl)) (fun _ h9 => h9) rfl dX0_appendDependence_11 ?_
  refine lv_aload_n hx hb dX0_appendDependence_14 rfl (lv_at hl 0 rfl) ?_
  refine va_get (D := D) (ci := 0) (v := .int (iI ((Lm L : Nat) : Int))) (C := RX0) (T := TX0) (N := 10) hx hb hts hinX0 hown hK hP 1 rfl rfl 9 (by decide) (hts (.fieldLink RX0 40 "LoopScheduler$Loop" "dependences" "I") (List.mem_of_getElem? (i := 2) rfl)) (fun _ h9 => h9) rfl dX0_appendDependence_15 ?_
  refine lv_iload_n hx hb dX0_appendDependence_18 rfl (lv_at hl 2 rfl) ?_
  refine z_iastZ (f := Lds L) (z := Lm L) (v := t) hx hb hK hP hD hS 7 0 rfl rfl (by omega) (by decide) dX0_appendDependence_19 (fun H locs hP hD hS => ?_)
  have hP : va_P D vwCl (wX a g (Ln L, Lm L, Lu L, Lkd L, Lby L, upN (Lsr L) (Lm L) f, upN (Lds L) (Lm L) t, Ldl L, Ldi L) att T hs tm tk lt) H := hP
  have hD : va_D A (wX a g (Ln L, Lm L, Lu L, Lkd L, Lby L, upN (Lsr L) (Lm L) f, upN (Lds L) (Lm L) t, Ldl L, Ldi L) att T hs tm tk lt) := hD
  refine lv_aload_n hx hb dX0_appendDependence_20 rfl (lv_at hl 0 rfl) ?_
  refine va_get (D := D) (ci := 0) (v := .ref (a 8)) (C := RX0) (T := TX0) (N := 10) hx hb hts hinX0 hown hK hP 1 rfl rfl 5 (by decide) (hts (.fieldLink RX0 27 "LoopScheduler$Loop" "delays" "[I") (List.mem_of_getElem? (i := 4) rfl)) (fun _ h9 => h9) rfl dX0_appendDependence_21 ?_
  refine lv_aload_n hx hb dX0_appendDependence_24 rfl (lv_at hl 0 rfl) ?_
  refine va_get (D := D) (ci := 0) (v := .int (iI ((Lm L : Nat) : Int))) (C := RX0) (T := TX0) (N := 10) hx hb hts hinX0 hown hK hP 1 rfl rfl 9 (by decide) (hts (.fieldLink RX0 40 "LoopScheduler$Loop" "dependences" "I") (List.mem_of_getElem? (i := 2) rfl)) (fun _ h9 => h9) rfl dX0_appendDependence_25 ?_
  refine lv_iload_n hx hb dX0_appendDependence_28 rfl (lv_at hl 3 rfl) ?_
  refine z_iastZ (f := Ldl L) (z := Lm L) (v := dl) hx hb hK hP hD hS 8 0 rfl rfl (by omega) (by decide) dX0_appendDependence_29 (fun H locs hP hD hS => ?_)
  have hP : va_P D vwCl (wX a g (Ln L, Lm L, Lu L, Lkd L, Lby L, upN (Lsr L) (Lm L) f, upN (Lds L) (Lm L) t, upN (Ldl L) (Lm L) dl, Ldi L) att T hs tm tk lt) H := hP
  have hD : va_D A (wX a g (Ln L, Lm L, Lu L, Lkd L, Lby L, upN (Lsr L) (Lm L) f, upN (Lds L) (Lm L) t, upN (Ldl L) (Lm L) dl, Ldi L) att T hs tm tk lt) := hD
  refine lv_aload_n hx hb dX0_appendDependence_30 rfl (lv_at hl 0 rfl) ?_
  refine va_get (D := D) (ci := 0) (v := .ref (a 9)) (C := RX0) (T := TX0) (N := 10) hx hb hts hinX0 hown hK hP 1 rfl rfl 6 (by decide) (hts (.fieldLink RX0 30 "LoopScheduler$Loop" "distances" "[I") (List.mem_of_getElem? (i := 5) rfl)) (fun _ h9 => h9) rfl dX0_appendDependence_31 ?_
  refine lv_aload_n hx hb dX0_appendDependence_34 rfl (lv_at hl 0 rfl) ?_
  refine va_get (D := D) (ci := 0) (v := .int (iI ((Lm L : Nat) : Int))) (C := RX0) (T := TX0) (N := 10) hx hb hts hinX0 hown hK hP 1 rfl rfl 9 (by decide) (hts (.fieldLink RX0 40 "LoopScheduler$Loop" "dependences" "I") (List.mem_of_getElem? (i := 2) rfl)) (fun _ h9 => h9) rfl dX0_appendDependence_35 ?_
  refine lv_iload hx hb dX0_appendDependence_38 (lv_at hl 4 rfl) ?_
  refine z_iastZ (f := Ldi L) (z := Lm L) (v := di) hx hb hK hP hD hS 9 0 rfl rfl (by omega) (by decide) dX0_appendDependence_40 (fun H locs hP hD hS => ?_)
  have hP : va_P D vwCl (wX a g (Ln L, Lm L, Lu L, Lkd L, Lby L, upN (Lsr L) (Lm L) f, upN (Lds L) (Lm L) t, upN (Ldl L) (Lm L) dl, upN (Ldi L) (Lm L) di) att T hs tm tk lt) H := hP
  have hD : va_D A (wX a g (Ln L, Lm L, Lu L, Lkd L, Lby L, upN (Lsr L) (Lm L) f, upN (Lds L) (Lm L) t, upN (Ldl L) (Lm L) dl, upN (Ldi L) (Lm L) di) att T hs tm tk lt) := hD
  refine lv_aload_n hx hb dX0_appendDependence_41 rfl (lv_at hl 0 rfl) ?_
  refine lv_dup hx hb dX0_appendDependence_42 rfl ?_
  refine va_get (D := D) (ci := 0) (v := .int (iI ((Lm L : Nat) : Int))) (C := RX0) (T := TX0) (N := 10) hx hb hts hinX0 hown hK hP 1 rfl rfl 9 (by decide) (hts (.fieldLink RX0 40 "LoopScheduler$Loop" "dependences" "I") (List.mem_of_getElem? (i := 2) rfl)) (fun _ h9 => h9) rfl dX0_appendDependence_43 ?_
  refine z_ic hx hb dX0_appendDependence_46 ?_
  refine z_add (a := ((Lm L : Nat) : Int)) (b := 1) hx hb dX0_appendDependence_47 ?_
  refine z_eqI (y := iI ((Lm L + 1 : Nat) : Int)) (congrArg iI (by omega)) ?_
  refine va_put (D := D) (ci := 0) (v := .int (iI ((Lm L + 1 : Nat) : Int))) (ty := .int) (C := RX0) (T := TX0) (N := 10) hx hb hts hinX0 tyX0 tyX0_ok nmX0 hown hK hP hD hS 1 rfl rfl 9 (by decide) (hts (.fieldLink RX0 40 "LoopScheduler$Loop" "dependences" "I") (List.mem_of_getElem? (i := 2) rfl)) (fun _ h9 => h9) rfl (by decide +kernel) rfl rfl (Nat.le_of_ble_eq_true rfl) dX0_appendDependence_48 (fun H locs hP hD hS => ?_)
  have hP : va_P D vwCl (wX a g (Ln L, Lm L + 1, Lu L, Lkd L, Lby L, upN (Lsr L) (Lm L) f, upN (Lds L) (Lm L) t, upN (Ldl L) (Lm L) dl, upN (Ldi L) (Lm L) di) att T hs tm tk lt) H := hP
  have hD : va_D A (wX a g (Ln L, Lm L + 1, Lu L, Lkd L, Lby L, upN (Lsr L) (Lm L) f, upN (Lds L) (Lm L) t, upN (Ldl L) (Lm L) dl, upN (Ldi L) (Lm L) di) att T hs tm tk lt) := hD
  refine lv_aload_n hx hb dX0_appendDependence_51 rfl (lv_at hl 0 rfl) ?_
  refine va_get (D := D) (ci := 0) (v := .int (iI ((Lm L + 1 : Nat) : Int))) (C := RX0) (T := TX0) (N := 10) hx hb hts hinX0 hown hK hP 1 rfl rfl 9 (by decide) (hts (.fieldLink RX0 40 "LoopScheduler$Loop" "dependences" "I") (List.mem_of_getElem? (i := 2) rfl)) (fun _ h9 => h9) rfl dX0_appendDependence_52 ?_
  refine z_ic hx hb dX0_appendDependence_55 ?_
  refine z_sub (a := ((Lm L + 1 : Nat) : Int)) (b := 1) hx hb dX0_appendDependence_56 ?_
  refine z_eqI (y := iI ((Lm L : Nat) : Int)) (congrArg iI (by omega)) ?_
  exact z_iret (w := (wX a g (Ln L, Lm L + 1, Lu L, Lkd L, Lby L, upN (Lsr L) (Lm L) f, upN (Lds L) (Lm L) t, upN (Ldl L) (Lm L) dl, upN (Ldi L) (Lm L) di) att T hs tm tk lt)) (v := (iI ((Lm L : Nat) : Int))) hQ hx hb hr hlocks ⟨rfl, rfl⟩ hK hP hD hS dX0_appendDependence_57
end
