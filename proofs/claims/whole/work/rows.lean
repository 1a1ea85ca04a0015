section
-- ===== PART A: goes FIRST, ahead of the names: the tables' words, and 'selects' of the private methods out of them =====
/-- a private method of a class that the tables say can be made, by its rows of tables_1 -/
def lw_okq (q : MethodName × Nat) : Prop := (q.1.cls ≠ "java/lang/invoke/MethodHandle" ∧ q.1.cls ≠ "java/lang/invoke/VarHandle") ∧ Cond.instantiable q.1.cls q.2 ∈ tables_1 ∧ Cond.privateMethod q.1 ∈ tables_1 ∧ Cond.instanceMethod q.1 ∈ tables_1
theorem lw_p0 : lw_okq (⟨"GuidePlans$Search", "find", "(LGuidePlans$Day;[III)Z"⟩, 9) := ⟨⟨by decide +kernel, by decide +kernel⟩, List.mem_of_getElem? (i := 82) (by decide +kernel), List.mem_of_getElem? (i := 151) (by decide +kernel), List.mem_of_getElem? (i := 152) (by decide +kernel)⟩
theorem lw_p1 : lw_okq (⟨"GuidePlans$Search", "bitOf", "(I)I"⟩, 9) := ⟨⟨by decide +kernel, by decide +kernel⟩, List.mem_of_getElem? (i := 82) (by decide +kernel), List.mem_of_getElem? (i := 155) (by decide +kernel), List.mem_of_getElem? (i := 156) (by decide +kernel)⟩
theorem lw_p2 : lw_okq (⟨"GuidePlans$Search", "bitsOfSuiting", "(LGuidePlans$Day;I)I"⟩, 9) := ⟨⟨by decide +kernel, by decide +kernel⟩, List.mem_of_getElem? (i := 82) (by decide +kernel), List.mem_of_getElem? (i := 159) (by decide +kernel), List.mem_of_getElem? (i := 160) (by decide +kernel)⟩
theorem lw_p3 : lw_okq (⟨"GuidePlans$Day", "isOffIn", "(II)Z"⟩, 13) := ⟨⟨by decide +kernel, by decide +kernel⟩, List.mem_of_getElem? (i := 22) (by decide +kernel), List.mem_of_getElem? (i := 175) (by decide +kernel), List.mem_of_getElem? (i := 176) (by decide +kernel)⟩
theorem lw_p4 : lw_okq (⟨"GuidePlans$Search", "bitsOfTooNear", "(LGuidePlans$Day;I)I"⟩, 9) := ⟨⟨by decide +kernel, by decide +kernel⟩, List.mem_of_getElem? (i := 82) (by decide +kernel), List.mem_of_getElem? (i := 179) (by decide +kernel), List.mem_of_getElem? (i := 180) (by decide +kernel)⟩
theorem lw_p5 : lw_okq (⟨"GuidePlans$Search", "place", "(LGuidePlans$Day;[III)V"⟩, 9) := ⟨⟨by decide +kernel, by decide +kernel⟩, List.mem_of_getElem? (i := 82) (by decide +kernel), List.mem_of_getElem? (i := 187) (by decide +kernel), List.mem_of_getElem? (i := 188) (by decide +kernel)⟩
theorem lw_p6 : lw_okq (⟨"GuidePlans$Search", "keepTrial", "(II)V"⟩, 9) := ⟨⟨by decide +kernel, by decide +kernel⟩, List.mem_of_getElem? (i := 82) (by decide +kernel), List.mem_of_getElem? (i := 191) (by decide +kernel), List.mem_of_getElem? (i := 192) (by decide +kernel)⟩
theorem lw_p7 : lw_okq (⟨"GuidePlans$Search", "mayTake", "(LGuidePlans$Day;II)Z"⟩, 9) := ⟨⟨by decide +kernel, by decide +kernel⟩, List.mem_of_getElem? (i := 82) (by decide +kernel), List.mem_of_getElem? (i := 195) (by decide +kernel), List.mem_of_getElem? (i := 196) (by decide +kernel)⟩
theorem lw_p8 : lw_okq (⟨"GuidePlans$Search", "placePerson", "(LGuidePlans$Day;[IIII)V"⟩, 9) := ⟨⟨by decide +kernel, by decide +kernel⟩, List.mem_of_getElem? (i := 82) (by decide +kernel), List.mem_of_getElem? (i := 203) (by decide +kernel), List.mem_of_getElem? (i := 204) (by decide +kernel)⟩
theorem lw_p9 : lw_okq (⟨"GuidePlans$Search", "weightOf", "(III)I"⟩, 9) := ⟨⟨by decide +kernel, by decide +kernel⟩, List.mem_of_getElem? (i := 82) (by decide +kernel), List.mem_of_getElem? (i := 213) (by decide +kernel), List.mem_of_getElem? (i := 214) (by decide +kernel)⟩
theorem lw_p10 : lw_okq (⟨"GuidePlans", "adoptFoundPlan", "()V"⟩, 8) := ⟨⟨by decide +kernel, by decide +kernel⟩, List.mem_of_getElem? (i := 14) (by decide +kernel), List.mem_of_getElem? (i := 221) (by decide +kernel), List.mem_of_getElem? (i := 222) (by decide +kernel)⟩
theorem lw_p11 : lw_okq (⟨"GuidePlans", "planCost", "()I"⟩, 8) := ⟨⟨by decide +kernel, by decide +kernel⟩, List.mem_of_getElem? (i := 14) (by decide +kernel), List.mem_of_getElem? (i := 225) (by decide +kernel), List.mem_of_getElem? (i := 226) (by decide +kernel)⟩
theorem lw_p12 : lw_okq (⟨"GuidePlans", "numberOfTasks", "(I)I"⟩, 8) := ⟨⟨by decide +kernel, by decide +kernel⟩, List.mem_of_getElem? (i := 14) (by decide +kernel), List.mem_of_getElem? (i := 229) (by decide +kernel), List.mem_of_getElem? (i := 230) (by decide +kernel)⟩
theorem lw_p13 : lw_okq (⟨"java/lang/Throwable", "fillInStackTrace", "(I)Ljava/lang/Throwable;"⟩, 6) := ⟨⟨by decide +kernel, by decide +kernel⟩, List.mem_of_getElem? (i := 294) (by decide +kernel), List.mem_of_getElem? (i := 292) (by decide +kernel), List.mem_of_getElem? (i := 293) (by decide +kernel)⟩
theorem lw_p14 : lw_okq (⟨"GuidePlans", "requirePerson", "(I)V"⟩, 8) := ⟨⟨by decide +kernel, by decide +kernel⟩, List.mem_of_getElem? (i := 14) (by decide +kernel), List.mem_of_getElem? (i := 352) (by decide +kernel), List.mem_of_getElem? (i := 353) (by decide +kernel)⟩
theorem lw_p15 : lw_okq (⟨"GuidePlans", "requireSpan", "(II)V"⟩, 8) := ⟨⟨by decide +kernel, by decide +kernel⟩, List.mem_of_getElem? (i := 14) (by decide +kernel), List.mem_of_getElem? (i := 373) (by decide +kernel), List.mem_of_getElem? (i := 374) (by decide +kernel)⟩
def lw_privs_1 : List (MethodName × Nat) := [(⟨"GuidePlans$Search", "find", "(LGuidePlans$Day;[III)Z"⟩, 9), (⟨"GuidePlans$Search", "bitOf", "(I)I"⟩, 9), (⟨"GuidePlans$Search", "bitsOfSuiting", "(LGuidePlans$Day;I)I"⟩, 9), (⟨"GuidePlans$Day", "isOffIn", "(II)Z"⟩, 13), (⟨"GuidePlans$Search", "bitsOfTooNear", "(LGuidePlans$Day;I)I"⟩, 9), (⟨"GuidePlans$Search", "place", "(LGuidePlans$Day;[III)V"⟩, 9), (⟨"GuidePlans$Search", "keepTrial", "(II)V"⟩, 9), (⟨"GuidePlans$Search", "mayTake", "(LGuidePlans$Day;II)Z"⟩, 9), (⟨"GuidePlans$Search", "placePerson", "(LGuidePlans$Day;[IIII)V"⟩, 9), (⟨"GuidePlans$Search", "weightOf", "(III)I"⟩, 9), (⟨"GuidePlans", "adoptFoundPlan", "()V"⟩, 8), (⟨"GuidePlans", "planCost", "()I"⟩, 8), (⟨"GuidePlans", "numberOfTasks", "(I)I"⟩, 8), (⟨"java/lang/Throwable", "fillInStackTrace", "(I)Ljava/lang/Throwable;"⟩, 6), (⟨"GuidePlans", "requirePerson", "(I)V"⟩, 8), (⟨"GuidePlans", "requireSpan", "(II)V"⟩, 8)]
theorem lw_r1 : ∀ q ∈ lw_privs_1, lw_okq q := List.forall_mem_cons.mpr ⟨lw_p0, List.forall_mem_cons.mpr ⟨lw_p1, List.forall_mem_cons.mpr ⟨lw_p2, List.forall_mem_cons.mpr ⟨lw_p3, List.forall_mem_cons.mpr ⟨lw_p4, List.forall_mem_cons.mpr ⟨lw_p5, List.forall_mem_cons.mpr ⟨lw_p6, List.forall_mem_cons.mpr ⟨lw_p7, List.forall_mem_cons.mpr ⟨lw_p8, List.forall_mem_cons.mpr ⟨lw_p9, List.forall_mem_cons.mpr ⟨lw_p10, List.forall_mem_cons.mpr ⟨lw_p11, List.forall_mem_cons.mpr ⟨lw_p12, List.forall_mem_cons.mpr ⟨lw_p13, List.forall_mem_cons.mpr ⟨lw_p14, List.forall_mem_cons.mpr ⟨lw_p15, fun _ h => absurd h List.not_mem_nil⟩⟩⟩⟩⟩⟩⟩⟩⟩⟩⟩⟩⟩⟩⟩⟩
theorem lw_p16 : lw_okq (⟨"GuidePlans", "requireRoomForSpan", "()V"⟩, 8) := ⟨⟨by decide +kernel, by decide +kernel⟩, List.mem_of_getElem? (i := 14) (by decide +kernel), List.mem_of_getElem? (i := 378) (by decide +kernel), List.mem_of_getElem? (i := 379) (by decide +kernel)⟩
theorem lw_p17 : lw_okq (⟨"GuidePlans", "requireQuarters", "(I)V"⟩, 8) := ⟨⟨by decide +kernel, by decide +kernel⟩, List.mem_of_getElem? (i := 14) (by decide +kernel), List.mem_of_getElem? (i := 407) (by decide +kernel), List.mem_of_getElem? (i := 408) (by decide +kernel)⟩
theorem lw_p18 : lw_okq (⟨"GuidePlans", "requireTask", "(I)V"⟩, 8) := ⟨⟨by decide +kernel, by decide +kernel⟩, List.mem_of_getElem? (i := 14) (by decide +kernel), List.mem_of_getElem? (i := 433) (by decide +kernel), List.mem_of_getElem? (i := 434) (by decide +kernel)⟩
theorem lw_p19 : lw_okq (⟨"GuidePlans", "requirePlan", "()V"⟩, 8) := ⟨⟨by decide +kernel, by decide +kernel⟩, List.mem_of_getElem? (i := 14) (by decide +kernel), List.mem_of_getElem? (i := 446) (by decide +kernel), List.mem_of_getElem? (i := 447) (by decide +kernel)⟩
theorem lw_p20 : lw_okq (⟨"GuidePlans", "noteChanges", "()V"⟩, 8) := ⟨⟨by decide +kernel, by decide +kernel⟩, List.mem_of_getElem? (i := 14) (by decide +kernel), List.mem_of_getElem? (i := 466) (by decide +kernel), List.mem_of_getElem? (i := 467) (by decide +kernel)⟩
theorem lw_p21 : lw_okq (⟨"GuidePlans", "empties", "(II)Z"⟩, 8) := ⟨⟨by decide +kernel, by decide +kernel⟩, List.mem_of_getElem? (i := 14) (by decide +kernel), List.mem_of_getElem? (i := 485) (by decide +kernel), List.mem_of_getElem? (i := 486) (by decide +kernel)⟩
theorem lw_p22 : lw_okq (⟨"GuidePlans", "isUnsuited", "(II)Z"⟩, 8) := ⟨⟨by decide +kernel, by decide +kernel⟩, List.mem_of_getElem? (i := 14) (by decide +kernel), List.mem_of_getElem? (i := 489) (by decide +kernel), List.mem_of_getElem? (i := 490) (by decide +kernel)⟩
theorem lw_p23 : lw_okq (⟨"GuidePlans", "faultOfSets", "(II)I"⟩, 8) := ⟨⟨by decide +kernel, by decide +kernel⟩, List.mem_of_getElem? (i := 14) (by decide +kernel), List.mem_of_getElem? (i := 494) (by decide +kernel), List.mem_of_getElem? (i := 495) (by decide +kernel)⟩
theorem lw_p24 : lw_okq (⟨"GuidePlans", "hasTasksTooNear", "(I)Z"⟩, 8) := ⟨⟨by decide +kernel, by decide +kernel⟩, List.mem_of_getElem? (i := 14) (by decide +kernel), List.mem_of_getElem? (i := 498) (by decide +kernel), List.mem_of_getElem? (i := 499) (by decide +kernel)⟩
theorem lw_p25 : lw_okq (⟨"GuidePlans", "worksTooLong", "(I)Z"⟩, 8) := ⟨⟨by decide +kernel, by decide +kernel⟩, List.mem_of_getElem? (i := 14) (by decide +kernel), List.mem_of_getElem? (i := 503) (by decide +kernel), List.mem_of_getElem? (i := 504) (by decide +kernel)⟩
theorem lw_p26 : lw_okq (⟨"GuidePlans", "quartersOf", "(I)I"⟩, 8) := ⟨⟨by decide +kernel, by decide +kernel⟩, List.mem_of_getElem? (i := 14) (by decide +kernel), List.mem_of_getElem? (i := 507) (by decide +kernel), List.mem_of_getElem? (i := 508) (by decide +kernel)⟩
theorem lw_p27 : lw_okq (⟨"GuidePlansModel", "goes", "(ZZZ)Z"⟩, 27) := ⟨⟨by decide +kernel, by decide +kernel⟩, List.mem_of_getElem? (i := 527) (by decide +kernel), List.mem_of_getElem? (i := 626) (by decide +kernel), List.mem_of_getElem? (i := 627) (by decide +kernel)⟩
theorem lw_p28 : lw_okq (⟨"GuidePlansModel", "isPerson", "(I)Z"⟩, 27) := ⟨⟨by decide +kernel, by decide +kernel⟩, List.mem_of_getElem? (i := 527) (by decide +kernel), List.mem_of_getElem? (i := 634) (by decide +kernel), List.mem_of_getElem? (i := 635) (by decide +kernel)⟩
theorem lw_p29 : lw_okq (⟨"GuidePlansModel", "leave", "(III)V"⟩, 27) := ⟨⟨by decide +kernel, by decide +kernel⟩, List.mem_of_getElem? (i := 527) (by decide +kernel), List.mem_of_getElem? (i := 641) (by decide +kernel), List.mem_of_getElem? (i := 642) (by decide +kernel)⟩
theorem lw_p30 : lw_okq (⟨"GuidePlansModel", "seek", "(Z)V"⟩, 27) := ⟨⟨by decide +kernel, by decide +kernel⟩, List.mem_of_getElem? (i := 527) (by decide +kernel), List.mem_of_getElem? (i := 665) (by decide +kernel), List.mem_of_getElem? (i := 666) (by decide +kernel)⟩
theorem lw_p31 : lw_okq (⟨"GuidePlansModel", "may", "()Z"⟩, 27) := ⟨⟨by decide +kernel, by decide +kernel⟩, List.mem_of_getElem? (i := 527) (by decide +kernel), List.mem_of_getElem? (i := 669) (by decide +kernel), List.mem_of_getElem? (i := 670) (by decide +kernel)⟩
def lw_privs_2 : List (MethodName × Nat) := [(⟨"GuidePlans", "requireRoomForSpan", "()V"⟩, 8), (⟨"GuidePlans", "requireQuarters", "(I)V"⟩, 8), (⟨"GuidePlans", "requireTask", "(I)V"⟩, 8), (⟨"GuidePlans", "requirePlan", "()V"⟩, 8), (⟨"GuidePlans", "noteChanges", "()V"⟩, 8), (⟨"GuidePlans", "empties", "(II)Z"⟩, 8), (⟨"GuidePlans", "isUnsuited", "(II)Z"⟩, 8), (⟨"GuidePlans", "faultOfSets", "(II)I"⟩, 8), (⟨"GuidePlans", "hasTasksTooNear", "(I)Z"⟩, 8), (⟨"GuidePlans", "worksTooLong", "(I)Z"⟩, 8), (⟨"GuidePlans", "quartersOf", "(I)I"⟩, 8), (⟨"GuidePlansModel", "goes", "(ZZZ)Z"⟩, 27), (⟨"GuidePlansModel", "isPerson", "(I)Z"⟩, 27), (⟨"GuidePlansModel", "leave", "(III)V"⟩, 27), (⟨"GuidePlansModel", "seek", "(Z)V"⟩, 27), (⟨"GuidePlansModel", "may", "()Z"⟩, 27)]
theorem lw_r2 : ∀ q ∈ lw_privs_2, lw_okq q := List.forall_mem_cons.mpr ⟨lw_p16, List.forall_mem_cons.mpr ⟨lw_p17, List.forall_mem_cons.mpr ⟨lw_p18, List.forall_mem_cons.mpr ⟨lw_p19, List.forall_mem_cons.mpr ⟨lw_p20, List.forall_mem_cons.mpr ⟨lw_p21, List.forall_mem_cons.mpr ⟨lw_p22, List.forall_mem_cons.mpr ⟨lw_p23, List.forall_mem_cons.mpr ⟨lw_p24, List.forall_mem_cons.mpr ⟨lw_p25, List.forall_mem_cons.mpr ⟨lw_p26, List.forall_mem_cons.mpr ⟨lw_p27, List.forall_mem_cons.mpr ⟨lw_p28, List.forall_mem_cons.mpr ⟨lw_p29, List.forall_mem_cons.mpr ⟨lw_p30, List.forall_mem_cons.mpr ⟨lw_p31, fun _ h => absurd h List.not_mem_nil⟩⟩⟩⟩⟩⟩⟩⟩⟩⟩⟩⟩⟩⟩⟩⟩
theorem lw_p32 : lw_okq (⟨"GuidePlansModel", "suits", "(II)Z"⟩, 27) := ⟨⟨by decide +kernel, by decide +kernel⟩, List.mem_of_getElem? (i := 527) (by decide +kernel), List.mem_of_getElem? (i := 673) (by decide +kernel), List.mem_of_getElem? (i := 674) (by decide +kernel)⟩
theorem lw_p33 : lw_okq (⟨"GuidePlansModel", "quarters", "(I)I"⟩, 27) := ⟨⟨by decide +kernel, by decide +kernel⟩, List.mem_of_getElem? (i := 527) (by decide +kernel), List.mem_of_getElem? (i := 677) (by decide +kernel), List.mem_of_getElem? (i := 678) (by decide +kernel)⟩
theorem lw_p34 : lw_okq (⟨"GuidePlansModel", "hasNear", "(I)Z"⟩, 27) := ⟨⟨by decide +kernel, by decide +kernel⟩, List.mem_of_getElem? (i := 527) (by decide +kernel), List.mem_of_getElem? (i := 681) (by decide +kernel), List.mem_of_getElem? (i := 682) (by decide +kernel)⟩
theorem lw_p35 : lw_okq (⟨"GuidePlansModel", "isNear", "(II)Z"⟩, 27) := ⟨⟨by decide +kernel, by decide +kernel⟩, List.mem_of_getElem? (i := 527) (by decide +kernel), List.mem_of_getElem? (i := 685) (by decide +kernel), List.mem_of_getElem? (i := 686) (by decide +kernel)⟩
theorem lw_p36 : lw_okq (⟨"GuidePlansModel", "full", "()I"⟩, 27) := ⟨⟨by decide +kernel, by decide +kernel⟩, List.mem_of_getElem? (i := 527) (by decide +kernel), List.mem_of_getElem? (i := 689) (by decide +kernel), List.mem_of_getElem? (i := 690) (by decide +kernel)⟩
theorem lw_p37 : lw_okq (⟨"GuidePlansModel", "differences", "()I"⟩, 27) := ⟨⟨by decide +kernel, by decide +kernel⟩, List.mem_of_getElem? (i := 527) (by decide +kernel), List.mem_of_getElem? (i := 693) (by decide +kernel), List.mem_of_getElem? (i := 694) (by decide +kernel)⟩
theorem lw_p38 : lw_okq (⟨"GuidePlansModel", "costOf", "()I"⟩, 27) := ⟨⟨by decide +kernel, by decide +kernel⟩, List.mem_of_getElem? (i := 527) (by decide +kernel), List.mem_of_getElem? (i := 697) (by decide +kernel), List.mem_of_getElem? (i := 698) (by decide +kernel)⟩
theorem lw_p39 : lw_okq (⟨"GuidePlansModel", "keep", "(I)V"⟩, 27) := ⟨⟨by decide +kernel, by decide +kernel⟩, List.mem_of_getElem? (i := 527) (by decide +kernel), List.mem_of_getElem? (i := 701) (by decide +kernel), List.mem_of_getElem? (i := 702) (by decide +kernel)⟩
theorem lw_p40 : lw_okq (⟨"GuidePlansModel", "tell", "()V"⟩, 27) := ⟨⟨by decide +kernel, by decide +kernel⟩, List.mem_of_getElem? (i := 527) (by decide +kernel), List.mem_of_getElem? (i := 705) (by decide +kernel), List.mem_of_getElem? (i := 706) (by decide +kernel)⟩
theorem lw_p41 : lw_okq (⟨"GuidePlansModel", "isTask", "(I)Z"⟩, 27) := ⟨⟨by decide +kernel, by decide +kernel⟩, List.mem_of_getElem? (i := 527) (by decide +kernel), List.mem_of_getElem? (i := 717) (by decide +kernel), List.mem_of_getElem? (i := 718) (by decide +kernel)⟩
theorem lw_p42 : lw_okq (⟨"GuidePlansModel", "tryPlan", "()V"⟩, 27) := ⟨⟨by decide +kernel, by decide +kernel⟩, List.mem_of_getElem? (i := 527) (by decide +kernel), List.mem_of_getElem? (i := 725) (by decide +kernel), List.mem_of_getElem? (i := 726) (by decide +kernel)⟩
theorem lw_p43 : lw_okq (⟨"GuidePlansModel", "isEmptied", "(II)Z"⟩, 27) := ⟨⟨by decide +kernel, by decide +kernel⟩, List.mem_of_getElem? (i := 527) (by decide +kernel), List.mem_of_getElem? (i := 741) (by decide +kernel), List.mem_of_getElem? (i := 742) (by decide +kernel)⟩
theorem lw_p44 : lw_okq (⟨"GuidePlansModel", "isUnfit", "(II)Z"⟩, 27) := ⟨⟨by decide +kernel, by decide +kernel⟩, List.mem_of_getElem? (i := 527) (by decide +kernel), List.mem_of_getElem? (i := 745) (by decide +kernel), List.mem_of_getElem? (i := 746) (by decide +kernel)⟩
def lw_privs_3 : List (MethodName × Nat) := [(⟨"GuidePlansModel", "suits", "(II)Z"⟩, 27), (⟨"GuidePlansModel", "quarters", "(I)I"⟩, 27), (⟨"GuidePlansModel", "hasNear", "(I)Z"⟩, 27), (⟨"GuidePlansModel", "isNear", "(II)Z"⟩, 27), (⟨"GuidePlansModel", "full", "()I"⟩, 27), (⟨"GuidePlansModel", "differences", "()I"⟩, 27), (⟨"GuidePlansModel", "costOf", "()I"⟩, 27), (⟨"GuidePlansModel", "keep", "(I)V"⟩, 27), (⟨"GuidePlansModel", "tell", "()V"⟩, 27), (⟨"GuidePlansModel", "isTask", "(I)Z"⟩, 27), (⟨"GuidePlansModel", "tryPlan", "()V"⟩, 27), (⟨"GuidePlansModel", "isEmptied", "(II)Z"⟩, 27), (⟨"GuidePlansModel", "isUnfit", "(II)Z"⟩, 27)]
theorem lw_r3 : ∀ q ∈ lw_privs_3, lw_okq q := List.forall_mem_cons.mpr ⟨lw_p32, List.forall_mem_cons.mpr ⟨lw_p33, List.forall_mem_cons.mpr ⟨lw_p34, List.forall_mem_cons.mpr ⟨lw_p35, List.forall_mem_cons.mpr ⟨lw_p36, List.forall_mem_cons.mpr ⟨lw_p37, List.forall_mem_cons.mpr ⟨lw_p38, List.forall_mem_cons.mpr ⟨lw_p39, List.forall_mem_cons.mpr ⟨lw_p40, List.forall_mem_cons.mpr ⟨lw_p41, List.forall_mem_cons.mpr ⟨lw_p42, List.forall_mem_cons.mpr ⟨lw_p43, List.forall_mem_cons.mpr ⟨lw_p44, fun _ h => absurd h List.not_mem_nil⟩⟩⟩⟩⟩⟩⟩⟩⟩⟩⟩⟩⟩
def lw_privs : List (MethodName × Nat) := lw_privs_1 ++ (lw_privs_2 ++ (lw_privs_3))
def lw_tbl : List Cond := k2_sels lw_privs ++ tables_1
theorem lw_privs_ok : ∀ q ∈ lw_privs, lw_okq q := by
  show ∀ q ∈ lw_privs_1 ++ (lw_privs_2 ++ (lw_privs_3)), lw_okq q
  exact List.forall_mem_append.mpr ⟨lw_r1, List.forall_mem_append.mpr ⟨lw_r2, lw_r3⟩⟩
end
section
def R_G : String := "GuidePlans"
def T_G : u_T := fun k => match k with
  | 0 => ("GuidePlans", "day", "LGuidePlans$Day;", true)
  | 1 => ("GuidePlans", "search", "LGuidePlans$Search;", true)
  | 2 => ("GuidePlans", "plan", "[I", true)
  | 3 => ("GuidePlans", "changedTasks", "[I", true)
  | 4 => ("GuidePlans", "changes", "I", false)
  | 5 => ("GuidePlans", "frozenUntil", "I", false)
  | 6 => ("GuidePlans", "lackingBegin", "I", false)
  | _ => ("GuidePlans", "planned", "Z", false)
def t_G : Nat → FieldType := fun k => match k with
  | 0 => .object "GuidePlans$Day"
  | 1 => .object "GuidePlans$Search"
  | 2 => .array .int
  | 3 => .array .int
  | 4 => .int
  | 5 => .int
  | 6 => .int
  | _ => .boolean
def R_D : String := "GuidePlans$Day"
def T_D : u_T := fun k => match k with
  | 0 => ("GuidePlans$Day", "skillsOf", "[I", true)
  | 1 => ("GuidePlans$Day", "offPerson", "[I", true)
  | 2 => ("GuidePlans$Day", "offFrom", "[I", true)
  | 3 => ("GuidePlans$Day", "offTo", "[I", true)
  | 4 => ("GuidePlans$Day", "skill", "[I", true)
  | 5 => ("GuidePlans$Day", "begin", "[I", true)
  | 6 => ("GuidePlans$Day", "end", "[I", true)
  | 7 => ("GuidePlans$Day", "always", "[Z", true)
  | 8 => ("GuidePlans$Day", "persons", "I", false)
  | 9 => ("GuidePlans$Day", "spans", "I", false)
  | 10 => ("GuidePlans$Day", "tasks", "I", false)
  | 11 => ("GuidePlans$Day", "restQuarters", "I", false)
  | _ => ("GuidePlans$Day", "mostQuarters", "I", false)
def t_D : Nat → FieldType := fun k => match k with
  | 0 => .array .int
  | 1 => .array .int
  | 2 => .array .int
  | 3 => .array .int
  | 4 => .array .int
  | 5 => .array .int
  | 6 => .array .int
  | 7 => .array .boolean
  | 8 => .int
  | 9 => .int
  | 10 => .int
  | 11 => .int
  | _ => .int
def R_S : String := "GuidePlans$Search"
def T_S : u_T := fun k => match k with
  | 0 => ("GuidePlans$Search", "best", "[I", true)
  | 1 => ("GuidePlans$Search", "trial", "[I", true)
  | 2 => ("GuidePlans$Search", "choices", "[I", true)
  | 3 => ("GuidePlans$Search", "tooNear", "[I", true)
  | 4 => ("GuidePlans$Search", "held", "[I", true)
  | 5 => ("GuidePlans$Search", "quarters", "[I", true)
  | 6 => ("GuidePlans$Search", "changeWeight", "I", false)
  | 7 => ("GuidePlans$Search", "costWeight", "I", false)
  | _ => ("GuidePlans$Search", "bestScore", "I", false)
def t_S : Nat → FieldType := fun k => match k with
  | 0 => .array .int
  | 1 => .array .int
  | 2 => .array .int
  | 3 => .array .int
  | 4 => .array .int
  | 5 => .array .int
  | 6 => .int
  | 7 => .int
  | _ => .int
def R_M : String := "GuidePlansModel"
def T_M : u_T := fun k => match k with
  | 0 => ("GuidePlansModel", "thrown", "I", false)
  | 1 => ("GuidePlansModel", "persons", "I", false)
  | 2 => ("GuidePlansModel", "skills", "[I", true)
  | 3 => ("GuidePlansModel", "spans", "I", false)
  | 4 => ("GuidePlansModel", "spanOf", "[I", true)
  | 5 => ("GuidePlansModel", "spanFroms", "[I", true)
  | 6 => ("GuidePlansModel", "spanTos", "[I", true)
  | 7 => ("GuidePlansModel", "tasks", "I", false)
  | 8 => ("GuidePlansModel", "needs", "[I", true)
  | 9 => ("GuidePlansModel", "froms", "[I", true)
  | 10 => ("GuidePlansModel", "tos", "[I", true)
  | 11 => ("GuidePlansModel", "always", "[Z", true)
  | 12 => ("GuidePlansModel", "plan", "[I", true)
  | 13 => ("GuidePlansModel", "tried", "[I", true)
  | 14 => ("GuidePlansModel", "best", "[I", true)
  | 15 => ("GuidePlansModel", "kept", "[Z", true)
  | 16 => ("GuidePlansModel", "planned", "Z", false)
  | 17 => ("GuidePlansModel", "rest", "I", false)
  | 18 => ("GuidePlansModel", "limit", "I", false)
  | 19 => ("GuidePlansModel", "frozen", "I", false)
  | 20 => ("GuidePlansModel", "told", "I", false)
  | 21 => ("GuidePlansModel", "changes", "I", false)
  | 22 => ("GuidePlansModel", "changed", "[I", true)
  | 23 => ("GuidePlansModel", "found", "Z", false)
  | 24 => ("GuidePlansModel", "foundChanges", "I", false)
  | 25 => ("GuidePlansModel", "foundCost", "I", false)
  | _ => ("GuidePlansModel", "filled", "I", false)
def t_M : Nat → FieldType := fun k => match k with
  | 0 => .int
  | 1 => .int
  | 2 => .array .int
  | 3 => .int
  | 4 => .array .int
  | 5 => .array .int
  | 6 => .array .int
  | 7 => .int
  | 8 => .array .int
  | 9 => .array .int
  | 10 => .array .int
  | 11 => .array .boolean
  | 12 => .array .int
  | 13 => .array .int
  | 14 => .array .int
  | 15 => .array .boolean
  | 16 => .boolean
  | 17 => .int
  | 18 => .int
  | 19 => .int
  | 20 => .int
  | 21 => .int
  | 22 => .array .int
  | 23 => .boolean
  | 24 => .int
  | 25 => .int
  | _ => .int
def R_L : String := "GuidePlansLaw"
abbrev gp_cl : List vw_C := [(R_G, T_G, 8), (R_D, T_D, 13), (R_S, T_S, 9), (R_M, T_M, 27)]
theorem n_G : ∀ a, a < 8 → ∀ b, b < 8 → a ≠ b → (T_G a).2.1 ≠ (T_G b).2.1 := by decide +kernel
theorem t_G_ok : ∀ k, k < 8 → parseFieldDescriptor (T_G k).2.2.1 = some (t_G k) := by decide +kernel
theorem n_D : ∀ a, a < 13 → ∀ b, b < 13 → a ≠ b → (T_D a).2.1 ≠ (T_D b).2.1 := by decide +kernel
theorem t_D_ok : ∀ k, k < 13 → parseFieldDescriptor (T_D k).2.2.1 = some (t_D k) := by decide +kernel
theorem n_S : ∀ a, a < 9 → ∀ b, b < 9 → a ≠ b → (T_S a).2.1 ≠ (T_S b).2.1 := by decide +kernel
theorem t_S_ok : ∀ k, k < 9 → parseFieldDescriptor (T_S k).2.2.1 = some (t_S k) := by decide +kernel
theorem n_M : ∀ a, a < 27 → ∀ b, b < 27 → a ≠ b → (T_M a).2.1 ≠ (T_M b).2.1 := by decide +kernel
theorem t_M_ok : ∀ k, k < 27 → parseFieldDescriptor (T_M k).2.2.1 = some (t_M k) := by decide +kernel
def gw : List Cond := lw_tbl.filter goodWord
theorem gw_0 {w : Cond} (i : Nat) (h : (k2_sels lw_privs)[i]? = some w) (g : goodWord w = true) : w ∈ gw := List.mem_filter.mpr ⟨List.mem_append_left _ (List.mem_of_getElem? h), g⟩
theorem gw_1 {w : Cond} (i : Nat) (h : tables_1_1[i]? = some w) (g : goodWord w = true) : w ∈ gw := List.mem_filter.mpr ⟨List.mem_append_right _ (List.mem_append_left _ (List.mem_of_getElem? h)), g⟩
theorem gw_2 {w : Cond} (i : Nat) (h : tables_1_2[i]? = some w) (g : goodWord w = true) : w ∈ gw := List.mem_filter.mpr ⟨List.mem_append_right _ (List.mem_append_right _ (List.mem_append_left _ (List.mem_of_getElem? h))), g⟩
theorem gw_3 {w : Cond} (i : Nat) (h : tables_1_3[i]? = some w) (g : goodWord w = true) : w ∈ gw := List.mem_filter.mpr ⟨List.mem_append_right _ (List.mem_append_right _ (List.mem_append_right _ (List.mem_append_left _ (List.mem_of_getElem? h)))), g⟩
theorem gw_4 {w : Cond} (i : Nat) (h : tables_1_4[i]? = some w) (g : goodWord w = true) : w ∈ gw := List.mem_filter.mpr ⟨List.mem_append_right _ (List.mem_append_right _ (List.mem_append_right _ (List.mem_append_right _ (List.mem_of_getElem? h)))), g⟩
theorem gw_good : GoodIn gw gw := fun w h => ⟨h, good_of_word (List.mem_filter.mp h).2⟩
def y_G_init : MethodName := ⟨"GuidePlans", "<init>", "()V"⟩
abbrev b_G_init : ByteArray := prog_1_method_1_code
def y_D_init : MethodName := ⟨"GuidePlans$Day", "<init>", "()V"⟩
abbrev b_D_init : ByteArray := prog_2_method_1_code
def y_S_init : MethodName := ⟨"GuidePlans$Search", "<init>", "()V"⟩
abbrev b_S_init : ByteArray := prog_3_method_1_code
def y_G_run : MethodName := ⟨"GuidePlans", "run", "()I"⟩
abbrev b_G_run : ByteArray := prog_1_method_8_code
def y_S_findAnew : MethodName := ⟨"GuidePlans$Search", "findAnew", "(LGuidePlans$Day;[I)Z"⟩
abbrev b_S_findAnew : ByteArray := prog_3_method_2_code
def y_S_find : MethodName := ⟨"GuidePlans$Search", "find", "(LGuidePlans$Day;[III)Z"⟩
abbrev b_S_find : ByteArray := prog_3_method_5_code
def y_S_bitOf : MethodName := ⟨"GuidePlans$Search", "bitOf", "(I)I"⟩
abbrev b_S_bitOf : ByteArray := prog_3_method_6_code
def y_S_bitsOfSuiting : MethodName := ⟨"GuidePlans$Search", "bitsOfSuiting", "(LGuidePlans$Day;I)I"⟩
abbrev b_S_bitsOfSuiting : ByteArray := prog_3_method_7_code
def y_D_suits : MethodName := ⟨"GuidePlans$Day", "suits", "(II)Z"⟩
abbrev b_D_suits : ByteArray := prog_2_method_9_code
def y_D_hasPerson : MethodName := ⟨"GuidePlans$Day", "hasPerson", "(I)Z"⟩
abbrev b_D_hasPerson : ByteArray := prog_2_method_2_code
def y_D_hasTask : MethodName := ⟨"GuidePlans$Day", "hasTask", "(I)Z"⟩
abbrev b_D_hasTask : ByteArray := prog_2_method_3_code
def y_D_isOffIn : MethodName := ⟨"GuidePlans$Day", "isOffIn", "(II)Z"⟩
abbrev b_D_isOffIn : ByteArray := prog_2_method_10_code
def y_S_bitsOfTooNear : MethodName := ⟨"GuidePlans$Search", "bitsOfTooNear", "(LGuidePlans$Day;I)I"⟩
abbrev b_S_bitsOfTooNear : ByteArray := prog_3_method_8_code
def y_D_areTooNear : MethodName := ⟨"GuidePlans$Day", "areTooNear", "(II)Z"⟩
abbrev b_D_areTooNear : ByteArray := prog_2_method_11_code
def y_S_place : MethodName := ⟨"GuidePlans$Search", "place", "(LGuidePlans$Day;[III)V"⟩
abbrev b_S_place : ByteArray := prog_3_method_9_code
def y_S_keepTrial : MethodName := ⟨"GuidePlans$Search", "keepTrial", "(II)V"⟩
abbrev b_S_keepTrial : ByteArray := prog_3_method_13_code
def y_S_mayTake : MethodName := ⟨"GuidePlans$Search", "mayTake", "(LGuidePlans$Day;II)Z"⟩
abbrev b_S_mayTake : ByteArray := prog_3_method_10_code
def y_D_lengthOf : MethodName := ⟨"GuidePlans$Day", "lengthOf", "(I)I"⟩
abbrev b_D_lengthOf : ByteArray := prog_2_method_8_code
def y_S_placePerson : MethodName := ⟨"GuidePlans$Search", "placePerson", "(LGuidePlans$Day;[IIII)V"⟩
abbrev b_S_placePerson : ByteArray := prog_3_method_11_code
def y_J_bitCount : MethodName := ⟨"java/lang/Integer", "bitCount", "(I)I"⟩
abbrev b_J_bitCount : ByteArray := prog_9_method_49_code
def y_S_weightOf : MethodName := ⟨"GuidePlans$Search", "weightOf", "(III)I"⟩
abbrev b_S_weightOf : ByteArray := prog_3_method_12_code
def y_S_firstLacking : MethodName := ⟨"GuidePlans$Search", "firstLacking", "(LGuidePlans$Day;[II)I"⟩
abbrev b_S_firstLacking : ByteArray := prog_3_method_4_code
def y_G_adoptFoundPlan : MethodName := ⟨"GuidePlans", "adoptFoundPlan", "()V"⟩
abbrev b_G_adoptFoundPlan : ByteArray := prog_1_method_24_code
def y_G_planCost : MethodName := ⟨"GuidePlans", "planCost", "()I"⟩
abbrev b_G_planCost : ByteArray := prog_1_method_26_code
def y_G_numberOfTasks : MethodName := ⟨"GuidePlans", "numberOfTasks", "(I)I"⟩
abbrev b_G_numberOfTasks : ByteArray := prog_1_method_27_code
def y_G_told : MethodName := ⟨"GuidePlans", "told", "()I"⟩
abbrev b_G_told : ByteArray := prog_1_method_9_code
def y_G_fair : MethodName := ⟨"GuidePlans", "fair", "()I"⟩
abbrev b_G_fair : ByteArray := prog_1_method_16_code
def y_K_max : MethodName := ⟨"java/lang/Math", "max", "(II)I"⟩
abbrev b_K_max : ByteArray := prog_10_method_65_code
def y_K_min : MethodName := ⟨"java/lang/Math", "min", "(II)I"⟩
abbrev b_K_min : ByteArray := prog_10_method_69_code
def y_L_person : MethodName := ⟨"GuidePlansLaw", "person", "(LGuidePlans;I[J)I"⟩
abbrev b_L_person : ByteArray := method_3_code
def y_G_person : MethodName := ⟨"GuidePlans", "person", "(I)I"⟩
abbrev b_G_person : ByteArray := prog_1_method_2_code
def y_D_addPerson : MethodName := ⟨"GuidePlans$Day", "addPerson", "(I)I"⟩
abbrev b_D_addPerson : ByteArray := prog_2_method_4_code
def y_L_off : MethodName := ⟨"GuidePlansLaw", "off", "(LGuidePlans;III[J)I"⟩
abbrev b_L_off : ByteArray := method_4_code
def y_G_off : MethodName := ⟨"GuidePlans", "off", "(III)I"⟩
abbrev b_G_off : ByteArray := prog_1_method_3_code
def y_G_requirePerson : MethodName := ⟨"GuidePlans", "requirePerson", "(I)V"⟩
abbrev b_G_requirePerson : ByteArray := prog_1_method_18_code
def y_G_requireSpan : MethodName := ⟨"GuidePlans", "requireSpan", "(II)V"⟩
abbrev b_G_requireSpan : ByteArray := prog_1_method_20_code
def y_G_requireRoomForSpan : MethodName := ⟨"GuidePlans", "requireRoomForSpan", "()V"⟩
abbrev b_G_requireRoomForSpan : ByteArray := prog_1_method_23_code
def y_D_addSpan : MethodName := ⟨"GuidePlans$Day", "addSpan", "(III)V"⟩
abbrev b_D_addSpan : ByteArray := prog_2_method_5_code
def y_L_task : MethodName := ⟨"GuidePlansLaw", "task", "(LGuidePlans;IIIZ[J)I"⟩
abbrev b_L_task : ByteArray := method_5_code
def y_G_task : MethodName := ⟨"GuidePlans", "task", "(IIIZ)I"⟩
abbrev b_G_task : ByteArray := prog_1_method_4_code
def y_D_addTask : MethodName := ⟨"GuidePlans$Day", "addTask", "(IIIZ)I"⟩
abbrev b_D_addTask : ByteArray := prog_2_method_7_code
def y_L_rest : MethodName := ⟨"GuidePlansLaw", "rest", "(LGuidePlans;I[J)I"⟩
abbrev b_L_rest : ByteArray := method_6_code
def y_G_rest : MethodName := ⟨"GuidePlans", "rest", "(I)I"⟩
abbrev b_G_rest : ByteArray := prog_1_method_5_code
def y_G_requireQuarters : MethodName := ⟨"GuidePlans", "requireQuarters", "(I)V"⟩
abbrev b_G_requireQuarters : ByteArray := prog_1_method_21_code
def y_L_limit : MethodName := ⟨"GuidePlansLaw", "limit", "(LGuidePlans;I[J)I"⟩
abbrev b_L_limit : ByteArray := method_7_code
def y_G_limit : MethodName := ⟨"GuidePlans", "limit", "(I)I"⟩
abbrev b_G_limit : ByteArray := prog_1_method_6_code
def y_L_freeze : MethodName := ⟨"GuidePlansLaw", "freeze", "(LGuidePlans;I[J)I"⟩
abbrev b_L_freeze : ByteArray := method_8_code
def y_G_freeze : MethodName := ⟨"GuidePlans", "freeze", "(I)I"⟩
abbrev b_G_freeze : ByteArray := prog_1_method_7_code
def y_L_of : MethodName := ⟨"GuidePlansLaw", "of", "(LGuidePlans;I[J)I"⟩
abbrev b_L_of : ByteArray := method_9_code
def y_G_of : MethodName := ⟨"GuidePlans", "of", "(I)I"⟩
abbrev b_G_of : ByteArray := prog_1_method_10_code
def y_G_requireTask : MethodName := ⟨"GuidePlans", "requireTask", "(I)V"⟩
abbrev b_G_requireTask : ByteArray := prog_1_method_19_code
def y_L_cost : MethodName := ⟨"GuidePlansLaw", "cost", "(LGuidePlans;[J)I"⟩
abbrev b_L_cost : ByteArray := method_10_code
def y_G_cost : MethodName := ⟨"GuidePlans", "cost", "()I"⟩
abbrev b_G_cost : ByteArray := prog_1_method_11_code
def y_G_requirePlan : MethodName := ⟨"GuidePlans", "requirePlan", "()V"⟩
abbrev b_G_requirePlan : ByteArray := prog_1_method_22_code
def y_L_absent : MethodName := ⟨"GuidePlansLaw", "absent", "(LGuidePlans;II[J)I"⟩
abbrev b_L_absent : ByteArray := method_11_code
def y_G_absent : MethodName := ⟨"GuidePlans", "absent", "(II)I"⟩
abbrev b_G_absent : ByteArray := prog_1_method_12_code
def y_S_findNearest : MethodName := ⟨"GuidePlans$Search", "findNearest", "(LGuidePlans$Day;[II)Z"⟩
abbrev b_S_findNearest : ByteArray := prog_3_method_3_code
def y_D_dropLatestSpan : MethodName := ⟨"GuidePlans$Day", "dropLatestSpan", "()V"⟩
abbrev b_D_dropLatestSpan : ByteArray := prog_2_method_6_code
def y_G_noteChanges : MethodName := ⟨"GuidePlans", "noteChanges", "()V"⟩
abbrev b_G_noteChanges : ByteArray := prog_1_method_25_code
def y_L_changed : MethodName := ⟨"GuidePlansLaw", "changed", "(LGuidePlans;I[J)I"⟩
abbrev b_L_changed : ByteArray := method_12_code
def y_G_changed : MethodName := ⟨"GuidePlans", "changed", "(I)I"⟩
abbrev b_G_changed : ByteArray := prog_1_method_13_code
def y_L_swap : MethodName := ⟨"GuidePlansLaw", "swap", "(LGuidePlans;II[J)I"⟩
abbrev b_L_swap : ByteArray := method_13_code
def y_G_swap : MethodName := ⟨"GuidePlans", "swap", "(II)I"⟩
abbrev b_G_swap : ByteArray := prog_1_method_14_code
def y_G_empties : MethodName := ⟨"GuidePlans", "empties", "(II)Z"⟩
abbrev b_G_empties : ByteArray := prog_1_method_29_code
def y_G_isUnsuited : MethodName := ⟨"GuidePlans", "isUnsuited", "(II)Z"⟩
abbrev b_G_isUnsuited : ByteArray := prog_1_method_30_code
def y_G_faultOfSets : MethodName := ⟨"GuidePlans", "faultOfSets", "(II)I"⟩
abbrev b_G_faultOfSets : ByteArray := prog_1_method_31_code
def y_G_hasTasksTooNear : MethodName := ⟨"GuidePlans", "hasTasksTooNear", "(I)Z"⟩
abbrev b_G_hasTasksTooNear : ByteArray := prog_1_method_32_code
def y_G_worksTooLong : MethodName := ⟨"GuidePlans", "worksTooLong", "(I)Z"⟩
abbrev b_G_worksTooLong : ByteArray := prog_1_method_33_code
def y_G_quartersOf : MethodName := ⟨"GuidePlans", "quartersOf", "(I)I"⟩
abbrev b_G_quartersOf : ByteArray := prog_1_method_28_code
def y_L_work : MethodName := ⟨"GuidePlansLaw", "work", "(LGuidePlans;I[J)I"⟩
abbrev b_L_work : ByteArray := method_14_code
def y_G_work : MethodName := ⟨"GuidePlans", "work", "(I)I"⟩
abbrev b_G_work : ByteArray := prog_1_method_15_code
def y_L_count : MethodName := ⟨"GuidePlansLaw", "count", "(LGuidePlans;I[J)I"⟩
abbrev b_L_count : ByteArray := method_15_code
def y_G_count : MethodName := ⟨"GuidePlans", "count", "(I)I"⟩
abbrev b_G_count : ByteArray := prog_1_method_17_code
def y_M_init : MethodName := ⟨"GuidePlansModel", "<init>", "()V"⟩
abbrev b_M_init : ByteArray := prog_5_method_1_code
def y_M_thrown : MethodName := ⟨"GuidePlansModel", "thrown", "()I"⟩
abbrev b_M_thrown : ByteArray := prog_5_method_2_code
def y_M_person : MethodName := ⟨"GuidePlansModel", "person", "(I)I"⟩
abbrev b_M_person : ByteArray := prog_5_method_8_code
def y_M_within : MethodName := ⟨"GuidePlansModel", "within", "(III)Z"⟩
abbrev b_M_within : ByteArray := prog_5_method_4_code
def y_M_goes : MethodName := ⟨"GuidePlansModel", "goes", "(ZZZ)Z"⟩
abbrev b_M_goes : ByteArray := prog_5_method_3_code
def y_M_off : MethodName := ⟨"GuidePlansModel", "off", "(III)I"⟩
abbrev b_M_off : ByteArray := prog_5_method_10_code
def y_M_isPerson : MethodName := ⟨"GuidePlansModel", "isPerson", "(I)Z"⟩
abbrev b_M_isPerson : ByteArray := prog_5_method_6_code
def y_M_isSpan : MethodName := ⟨"GuidePlansModel", "isSpan", "(II)Z"⟩
abbrev b_M_isSpan : ByteArray := prog_5_method_5_code
def y_M_leave : MethodName := ⟨"GuidePlansModel", "leave", "(III)V"⟩
abbrev b_M_leave : ByteArray := prog_5_method_9_code
def y_M_task : MethodName := ⟨"GuidePlansModel", "task", "(IIIZ)I"⟩
abbrev b_M_task : ByteArray := prog_5_method_11_code
def y_M_rest : MethodName := ⟨"GuidePlansModel", "rest", "(I)I"⟩
abbrev b_M_rest : ByteArray := prog_5_method_12_code
def y_M_limit : MethodName := ⟨"GuidePlansModel", "limit", "(I)I"⟩
abbrev b_M_limit : ByteArray := prog_5_method_13_code
def y_M_freeze : MethodName := ⟨"GuidePlansModel", "freeze", "(I)I"⟩
abbrev b_M_freeze : ByteArray := prog_5_method_14_code
def y_M_run : MethodName := ⟨"GuidePlansModel", "run", "()I"⟩
abbrev b_M_run : ByteArray := prog_5_method_26_code
def y_M_seek : MethodName := ⟨"GuidePlansModel", "seek", "(Z)V"⟩
abbrev b_M_seek : ByteArray := prog_5_method_23_code
def y_M_may : MethodName := ⟨"GuidePlansModel", "may", "()Z"⟩
abbrev b_M_may : ByteArray := prog_5_method_20_code
def y_M_suits : MethodName := ⟨"GuidePlansModel", "suits", "(II)Z"⟩
abbrev b_M_suits : ByteArray := prog_5_method_15_code
def y_M_quarters : MethodName := ⟨"GuidePlansModel", "quarters", "(I)I"⟩
abbrev b_M_quarters : ByteArray := prog_5_method_18_code
def y_M_hasNear : MethodName := ⟨"GuidePlansModel", "hasNear", "(I)Z"⟩
abbrev b_M_hasNear : ByteArray := prog_5_method_17_code
def y_M_isNear : MethodName := ⟨"GuidePlansModel", "isNear", "(II)Z"⟩
abbrev b_M_isNear : ByteArray := prog_5_method_16_code
def y_M_full : MethodName := ⟨"GuidePlansModel", "full", "()I"⟩
abbrev b_M_full : ByteArray := prog_5_method_21_code
def y_M_differences : MethodName := ⟨"GuidePlansModel", "differences", "()I"⟩
abbrev b_M_differences : ByteArray := prog_5_method_22_code
def y_M_costOf : MethodName := ⟨"GuidePlansModel", "costOf", "()I"⟩
abbrev b_M_costOf : ByteArray := prog_5_method_19_code
def y_M_keep : MethodName := ⟨"GuidePlansModel", "keep", "(I)V"⟩
abbrev b_M_keep : ByteArray := prog_5_method_24_code
def y_M_tell : MethodName := ⟨"GuidePlansModel", "tell", "()V"⟩
abbrev b_M_tell : ByteArray := prog_5_method_25_code
def y_M_told : MethodName := ⟨"GuidePlansModel", "told", "()I"⟩
abbrev b_M_told : ByteArray := prog_5_method_27_code
def y_M_of : MethodName := ⟨"GuidePlansModel", "of", "(I)I"⟩
abbrev b_M_of : ByteArray := prog_5_method_28_code
def y_M_isTask : MethodName := ⟨"GuidePlansModel", "isTask", "(I)Z"⟩
abbrev b_M_isTask : ByteArray := prog_5_method_7_code
def y_M_cost : MethodName := ⟨"GuidePlansModel", "cost", "()I"⟩
abbrev b_M_cost : ByteArray := prog_5_method_30_code
def y_M_tryPlan : MethodName := ⟨"GuidePlansModel", "tryPlan", "()V"⟩
abbrev b_M_tryPlan : ByteArray := prog_5_method_29_code
def y_M_absent : MethodName := ⟨"GuidePlansModel", "absent", "(II)I"⟩
abbrev b_M_absent : ByteArray := prog_5_method_31_code
def y_M_changed : MethodName := ⟨"GuidePlansModel", "changed", "(I)I"⟩
abbrev b_M_changed : ByteArray := prog_5_method_32_code
def y_M_swap : MethodName := ⟨"GuidePlansModel", "swap", "(II)I"⟩
abbrev b_M_swap : ByteArray := prog_5_method_35_code
def y_M_isEmptied : MethodName := ⟨"GuidePlansModel", "isEmptied", "(II)Z"⟩
abbrev b_M_isEmptied : ByteArray := prog_5_method_33_code
def y_M_isUnfit : MethodName := ⟨"GuidePlansModel", "isUnfit", "(II)Z"⟩
abbrev b_M_isUnfit : ByteArray := prog_5_method_34_code
def y_M_work : MethodName := ⟨"GuidePlansModel", "work", "(I)I"⟩
abbrev b_M_work : ByteArray := prog_5_method_36_code
def y_M_fair : MethodName := ⟨"GuidePlansModel", "fair", "()I"⟩
abbrev b_M_fair : ByteArray := prog_5_method_37_code
def y_M_count : MethodName := ⟨"GuidePlansModel", "count", "(I)I"⟩
abbrev b_M_count : ByteArray := prog_5_method_38_code
end
section
theorem w1_0 : (Jvm.Cond.initialized "GuidePlansLaw") ∈ gw := gw_1 0 rfl rfl
theorem w1_1 : (Jvm.Cond.initialized "GuidePlans") ∈ gw := gw_1 1 rfl rfl
theorem w1_2 : (Jvm.Cond.initialized "GuidePlans$Day") ∈ gw := gw_1 2 rfl rfl
theorem w1_3 : (Jvm.Cond.initialized "GuidePlans$Search") ∈ gw := gw_1 3 rfl rfl
theorem w1_4 : (Jvm.Cond.initialized "GuidePlansModel") ∈ gw := gw_1 4 rfl rfl
theorem w1_5 : (Jvm.Cond.initialized "java/lang/Throwable") ∈ gw := gw_1 5 rfl rfl
theorem w1_6 : (Jvm.Cond.initialized "java/lang/Exception") ∈ gw := gw_1 6 rfl rfl
theorem w1_7 : (Jvm.Cond.initialized "java/lang/RuntimeException") ∈ gw := gw_1 7 rfl rfl
theorem w1_8 : (Jvm.Cond.initialized "java/lang/IllegalArgumentException") ∈ gw := gw_1 8 rfl rfl
theorem w1_9 : (Jvm.Cond.initialized "java/lang/IllegalStateException") ∈ gw := gw_1 9 rfl rfl
theorem w1_10 : (Jvm.Cond.initialized "java/util/NoSuchElementException") ∈ gw := gw_1 10 rfl rfl
theorem w1_11 : (Jvm.Cond.initialized "java/lang/Integer") ∈ gw := gw_1 11 rfl rfl
theorem w1_12 : (Jvm.Cond.initialized "java/lang/Math") ∈ gw := gw_1 12 rfl rfl
theorem w1_13 : (Jvm.Cond.classLink "GuidePlansLaw" (8 : Nat) "GuidePlans") ∈ gw := gw_1 13 rfl rfl
theorem w1_14 : (Jvm.Cond.instantiable "GuidePlans" (8 : Nat)) ∈ gw := gw_1 14 rfl rfl
theorem w1_15 : (Jvm.Cond.methodLink "GuidePlansLaw" (59 : Nat) ({ cls := "GuidePlans", name := "<init>", desc := "()V" } : Jvm.MethodName)) ∈ gw := gw_1 15 rfl rfl
theorem w1_16 : (Jvm.Cond.instanceMethod ({ cls := "GuidePlans", name := "<init>", desc := "()V" } : Jvm.MethodName)) ∈ gw := gw_1 16 rfl rfl
theorem w1_17 : (Jvm.Cond.code ({ cls := "GuidePlans", name := "<init>", desc := "()V" } : Jvm.MethodName) prog_1_method_1_code (1 : Nat) (Option.none : Option Jvm.ClassFile.FieldType)) ∈ gw := gw_1 17 rfl rfl
theorem w1_18 : (Jvm.Cond.methodLink "GuidePlans" (1 : Nat) ({ cls := "java/lang/Object", name := "<init>", desc := "()V" } : Jvm.MethodName)) ∈ gw := gw_1 18 rfl rfl
theorem w1_19 : (Jvm.Cond.instanceMethod ({ cls := "java/lang/Object", name := "<init>", desc := "()V" } : Jvm.MethodName)) ∈ gw := gw_1 19 rfl rfl
theorem w1_20 : (Jvm.Cond.code ({ cls := "java/lang/Object", name := "<init>", desc := "()V" } : Jvm.MethodName) object_method_1_code (1 : Nat) (Option.none : Option Jvm.ClassFile.FieldType)) ∈ gw := gw_1 20 rfl rfl
theorem w1_21 : (Jvm.Cond.classLink "GuidePlans" (7 : Nat) "GuidePlans$Day") ∈ gw := gw_1 21 rfl rfl
theorem w1_22 : (Jvm.Cond.instantiable "GuidePlans$Day" (13 : Nat)) ∈ gw := gw_1 22 rfl rfl
theorem w1_23 : (Jvm.Cond.methodLink "GuidePlans" (9 : Nat) ({ cls := "GuidePlans$Day", name := "<init>", desc := "()V" } : Jvm.MethodName)) ∈ gw := gw_1 23 rfl rfl
theorem w1_24 : (Jvm.Cond.instanceMethod ({ cls := "GuidePlans$Day", name := "<init>", desc := "()V" } : Jvm.MethodName)) ∈ gw := gw_1 24 rfl rfl
theorem w1_25 : (Jvm.Cond.code ({ cls := "GuidePlans$Day", name := "<init>", desc := "()V" } : Jvm.MethodName) prog_2_method_1_code (1 : Nat) (Option.none : Option Jvm.ClassFile.FieldType)) ∈ gw := gw_1 25 rfl rfl
theorem w1_26 : (Jvm.Cond.methodLink "GuidePlans$Day" (3 : Nat) ({ cls := "java/lang/Object", name := "<init>", desc := "()V" } : Jvm.MethodName)) ∈ gw := gw_1 26 rfl rfl
theorem w1_27 : (Jvm.Cond.fieldLink "GuidePlans$Day" (9 : Nat) "GuidePlans$Day" "skillsOf" "[I") ∈ gw := gw_1 27 rfl rfl
theorem w1_28 : (Jvm.Cond.fieldLink "GuidePlans$Day" (15 : Nat) "GuidePlans$Day" "offPerson" "[I") ∈ gw := gw_1 28 rfl rfl
theorem w1_29 : (Jvm.Cond.fieldLink "GuidePlans$Day" (18 : Nat) "GuidePlans$Day" "offFrom" "[I") ∈ gw := gw_1 29 rfl rfl
theorem w1_30 : (Jvm.Cond.fieldLink "GuidePlans$Day" (21 : Nat) "GuidePlans$Day" "offTo" "[I") ∈ gw := gw_1 30 rfl rfl
theorem w1_31 : (Jvm.Cond.fieldLink "GuidePlans$Day" (24 : Nat) "GuidePlans$Day" "skill" "[I") ∈ gw := gw_1 31 rfl rfl
theorem w1_32 : (Jvm.Cond.fieldLink "GuidePlans$Day" (27 : Nat) "GuidePlans$Day" "begin" "[I") ∈ gw := gw_1 32 rfl rfl
theorem w1_33 : (Jvm.Cond.fieldLink "GuidePlans$Search" (54 : Nat) "GuidePlans$Day" "begin" "[I") ∈ gw := gw_1 33 rfl rfl
theorem w1_34 : (Jvm.Cond.fieldLink "GuidePlans" (137 : Nat) "GuidePlans$Day" "begin" "[I") ∈ gw := gw_1 34 rfl rfl
theorem w1_35 : (Jvm.Cond.fieldLink "GuidePlans$Day" (30 : Nat) "GuidePlans$Day" "end" "[I") ∈ gw := gw_1 35 rfl rfl
theorem w1_36 : (Jvm.Cond.fieldLink "GuidePlans$Day" (33 : Nat) "GuidePlans$Day" "always" "[Z") ∈ gw := gw_1 36 rfl rfl
theorem w1_37 : (Jvm.Cond.fieldLink "GuidePlans$Search" (50 : Nat) "GuidePlans$Day" "always" "[Z") ∈ gw := gw_1 37 rfl rfl
theorem w1_38 : (Jvm.Cond.fieldLink "GuidePlans" (192 : Nat) "GuidePlans$Day" "always" "[Z") ∈ gw := gw_1 38 rfl rfl
theorem w1_39 : (Jvm.Cond.fieldLink "GuidePlans$Day" (37 : Nat) "GuidePlans$Day" "persons" "I") ∈ gw := gw_1 39 rfl rfl
theorem w1_40 : (Jvm.Cond.fieldLink "GuidePlans" (51 : Nat) "GuidePlans$Day" "persons" "I") ∈ gw := gw_1 40 rfl rfl
theorem w1_41 : (Jvm.Cond.fieldLink "GuidePlans$Search" (72 : Nat) "GuidePlans$Day" "persons" "I") ∈ gw := gw_1 41 rfl rfl
theorem w1_42 : (Jvm.Cond.fieldLink "GuidePlans$Day" (41 : Nat) "GuidePlans$Day" "spans" "I") ∈ gw := gw_1 42 rfl rfl
theorem w1_43 : (Jvm.Cond.fieldLink "GuidePlans" (78 : Nat) "GuidePlans$Day" "spans" "I") ∈ gw := gw_1 43 rfl rfl
theorem w1_44 : (Jvm.Cond.fieldLink "GuidePlans$Day" (44 : Nat) "GuidePlans$Day" "tasks" "I") ∈ gw := gw_1 44 rfl rfl
theorem w1_45 : (Jvm.Cond.fieldLink "GuidePlans$Search" (41 : Nat) "GuidePlans$Day" "tasks" "I") ∈ gw := gw_1 45 rfl rfl
theorem w1_46 : (Jvm.Cond.fieldLink "GuidePlans" (86 : Nat) "GuidePlans$Day" "tasks" "I") ∈ gw := gw_1 46 rfl rfl
theorem w1_47 : (Jvm.Cond.fieldLink "GuidePlans$Day" (47 : Nat) "GuidePlans$Day" "restQuarters" "I") ∈ gw := gw_1 47 rfl rfl
theorem w1_48 : (Jvm.Cond.fieldLink "GuidePlans" (98 : Nat) "GuidePlans$Day" "restQuarters" "I") ∈ gw := gw_1 48 rfl rfl
theorem w1_49 : (Jvm.Cond.fieldLink "GuidePlans$Day" (50 : Nat) "GuidePlans$Day" "mostQuarters" "I") ∈ gw := gw_1 49 rfl rfl
theorem w1_50 : (Jvm.Cond.fieldLink "GuidePlans" (101 : Nat) "GuidePlans$Day" "mostQuarters" "I") ∈ gw := gw_1 50 rfl rfl
theorem w1_51 : (Jvm.Cond.fieldLink "GuidePlans$Search" (101 : Nat) "GuidePlans$Day" "mostQuarters" "I") ∈ gw := gw_1 51 rfl rfl
theorem w1_52 : (Jvm.Cond.laysFinal "GuidePlans$Day" "GuidePlans$Day" "skillsOf" "[I") ∈ gw := gw_1 52 rfl rfl
theorem w1_53 : (Jvm.Cond.soleField "GuidePlans$Day" "skillsOf") ∈ gw := gw_1 53 rfl rfl
theorem w1_54 : (Jvm.Cond.laysFinal "GuidePlans$Day" "GuidePlans$Day" "offPerson" "[I") ∈ gw := gw_1 54 rfl rfl
theorem w1_55 : (Jvm.Cond.soleField "GuidePlans$Day" "offPerson") ∈ gw := gw_1 55 rfl rfl
theorem w1_56 : (Jvm.Cond.laysFinal "GuidePlans$Day" "GuidePlans$Day" "offFrom" "[I") ∈ gw := gw_1 56 rfl rfl
theorem w1_57 : (Jvm.Cond.soleField "GuidePlans$Day" "offFrom") ∈ gw := gw_1 57 rfl rfl
theorem w1_58 : (Jvm.Cond.laysFinal "GuidePlans$Day" "GuidePlans$Day" "offTo" "[I") ∈ gw := gw_1 58 rfl rfl
theorem w1_59 : (Jvm.Cond.soleField "GuidePlans$Day" "offTo") ∈ gw := gw_1 59 rfl rfl
theorem w1_60 : (Jvm.Cond.laysFinal "GuidePlans$Day" "GuidePlans$Day" "skill" "[I") ∈ gw := gw_1 60 rfl rfl
theorem w1_61 : (Jvm.Cond.soleField "GuidePlans$Day" "skill") ∈ gw := gw_1 61 rfl rfl
theorem w1_62 : (Jvm.Cond.laysFinal "GuidePlans$Day" "GuidePlans$Day" "begin" "[I") ∈ gw := gw_1 62 rfl rfl
theorem w1_63 : (Jvm.Cond.soleField "GuidePlans$Day" "begin") ∈ gw := gw_1 63 rfl rfl
theorem w1_64 : (Jvm.Cond.laysFinal "GuidePlans$Day" "GuidePlans$Day" "end" "[I") ∈ gw := gw_1 64 rfl rfl
theorem w1_65 : (Jvm.Cond.soleField "GuidePlans$Day" "end") ∈ gw := gw_1 65 rfl rfl
theorem w1_66 : (Jvm.Cond.laysFinal "GuidePlans$Day" "GuidePlans$Day" "always" "[Z") ∈ gw := gw_1 66 rfl rfl
theorem w1_67 : (Jvm.Cond.soleField "GuidePlans$Day" "always") ∈ gw := gw_1 67 rfl rfl
theorem w1_68 : (Jvm.Cond.lays "GuidePlans$Day" "GuidePlans$Day" "persons" "I") ∈ gw := gw_1 68 rfl rfl
theorem w1_69 : (Jvm.Cond.soleField "GuidePlans$Day" "persons") ∈ gw := gw_1 69 rfl rfl
theorem w1_70 : (Jvm.Cond.lays "GuidePlans$Day" "GuidePlans$Day" "spans" "I") ∈ gw := gw_1 70 rfl rfl
theorem w1_71 : (Jvm.Cond.soleField "GuidePlans$Day" "spans") ∈ gw := gw_1 71 rfl rfl
theorem w1_72 : (Jvm.Cond.lays "GuidePlans$Day" "GuidePlans$Day" "tasks" "I") ∈ gw := gw_1 72 rfl rfl
theorem w1_73 : (Jvm.Cond.soleField "GuidePlans$Day" "tasks") ∈ gw := gw_1 73 rfl rfl
theorem w1_74 : (Jvm.Cond.lays "GuidePlans$Day" "GuidePlans$Day" "restQuarters" "I") ∈ gw := gw_1 74 rfl rfl
theorem w1_75 : (Jvm.Cond.soleField "GuidePlans$Day" "restQuarters") ∈ gw := gw_1 75 rfl rfl
theorem w1_76 : (Jvm.Cond.lays "GuidePlans$Day" "GuidePlans$Day" "mostQuarters" "I") ∈ gw := gw_1 76 rfl rfl
theorem w1_77 : (Jvm.Cond.soleField "GuidePlans$Day" "mostQuarters") ∈ gw := gw_1 77 rfl rfl
theorem w1_78 : (Jvm.Cond.superclass "GuidePlans$Day" "java/lang/Object") ∈ gw := gw_1 78 rfl rfl
theorem w1_79 : (Jvm.Cond.arrayClass Jvm.ClassFile.FieldType.int) ∈ gw := gw_1 79 rfl rfl
theorem w1_80 : (Jvm.Cond.arrayClass Jvm.ClassFile.FieldType.boolean) ∈ gw := gw_1 80 rfl rfl
theorem w1_81 : (Jvm.Cond.classLink "GuidePlans" (16 : Nat) "GuidePlans$Search") ∈ gw := gw_1 81 rfl rfl
theorem w1_82 : (Jvm.Cond.instantiable "GuidePlans$Search" (9 : Nat)) ∈ gw := gw_1 82 rfl rfl
theorem w1_83 : (Jvm.Cond.methodLink "GuidePlans" (18 : Nat) ({ cls := "GuidePlans$Search", name := "<init>", desc := "()V" } : Jvm.MethodName)) ∈ gw := gw_1 83 rfl rfl
theorem w1_84 : (Jvm.Cond.instanceMethod ({ cls := "GuidePlans$Search", name := "<init>", desc := "()V" } : Jvm.MethodName)) ∈ gw := gw_1 84 rfl rfl
theorem w1_85 : (Jvm.Cond.code ({ cls := "GuidePlans$Search", name := "<init>", desc := "()V" } : Jvm.MethodName) prog_3_method_1_code (1 : Nat) (Option.none : Option Jvm.ClassFile.FieldType)) ∈ gw := gw_1 85 rfl rfl
theorem w1_86 : (Jvm.Cond.methodLink "GuidePlans$Search" (3 : Nat) ({ cls := "java/lang/Object", name := "<init>", desc := "()V" } : Jvm.MethodName)) ∈ gw := gw_1 86 rfl rfl
theorem w1_87 : (Jvm.Cond.constant "GuidePlans$Search" (37 : Nat) (1000000 : Int32)) ∈ gw := gw_1 87 rfl rfl
theorem w1_88 : (Jvm.Cond.fieldLink "GuidePlans$Search" (9 : Nat) "GuidePlans$Search" "best" "[I") ∈ gw := gw_1 88 rfl rfl
theorem w1_89 : (Jvm.Cond.fieldLink "GuidePlans" (186 : Nat) "GuidePlans$Search" "best" "[I") ∈ gw := gw_1 89 rfl rfl
theorem w1_90 : (Jvm.Cond.fieldLink "GuidePlans$Search" (15 : Nat) "GuidePlans$Search" "trial" "[I") ∈ gw := gw_1 90 rfl rfl
theorem w1_91 : (Jvm.Cond.fieldLink "GuidePlans$Search" (18 : Nat) "GuidePlans$Search" "choices" "[I") ∈ gw := gw_1 91 rfl rfl
theorem w1_92 : (Jvm.Cond.fieldLink "GuidePlans$Search" (21 : Nat) "GuidePlans$Search" "tooNear" "[I") ∈ gw := gw_1 92 rfl rfl
theorem w1_93 : (Jvm.Cond.fieldLink "GuidePlans$Search" (24 : Nat) "GuidePlans$Search" "held" "[I") ∈ gw := gw_1 93 rfl rfl
theorem w1_94 : (Jvm.Cond.fieldLink "GuidePlans$Search" (27 : Nat) "GuidePlans$Search" "quarters" "[I") ∈ gw := gw_1 94 rfl rfl
theorem w1_95 : (Jvm.Cond.fieldLink "GuidePlans$Search" (30 : Nat) "GuidePlans$Search" "changeWeight" "I") ∈ gw := gw_1 95 rfl rfl
theorem w1_96 : (Jvm.Cond.fieldLink "GuidePlans$Search" (34 : Nat) "GuidePlans$Search" "costWeight" "I") ∈ gw := gw_1 96 rfl rfl
theorem w1_97 : (Jvm.Cond.fieldLink "GuidePlans$Search" (38 : Nat) "GuidePlans$Search" "bestScore" "I") ∈ gw := gw_1 97 rfl rfl
theorem w1_98 : (Jvm.Cond.laysFinal "GuidePlans$Search" "GuidePlans$Search" "best" "[I") ∈ gw := gw_1 98 rfl rfl
theorem w1_99 : (Jvm.Cond.soleField "GuidePlans$Search" "best") ∈ gw := gw_1 99 rfl rfl
theorem w1_100 : (Jvm.Cond.laysFinal "GuidePlans$Search" "GuidePlans$Search" "trial" "[I") ∈ gw := gw_1 100 rfl rfl
theorem w1_101 : (Jvm.Cond.soleField "GuidePlans$Search" "trial") ∈ gw := gw_1 101 rfl rfl
theorem w1_102 : (Jvm.Cond.laysFinal "GuidePlans$Search" "GuidePlans$Search" "choices" "[I") ∈ gw := gw_1 102 rfl rfl
theorem w1_103 : (Jvm.Cond.soleField "GuidePlans$Search" "choices") ∈ gw := gw_1 103 rfl rfl
theorem w1_104 : (Jvm.Cond.laysFinal "GuidePlans$Search" "GuidePlans$Search" "tooNear" "[I") ∈ gw := gw_1 104 rfl rfl
theorem w1_105 : (Jvm.Cond.soleField "GuidePlans$Search" "tooNear") ∈ gw := gw_1 105 rfl rfl
theorem w1_106 : (Jvm.Cond.laysFinal "GuidePlans$Search" "GuidePlans$Search" "held" "[I") ∈ gw := gw_1 106 rfl rfl
theorem w1_107 : (Jvm.Cond.soleField "GuidePlans$Search" "held") ∈ gw := gw_1 107 rfl rfl
theorem w1_108 : (Jvm.Cond.laysFinal "GuidePlans$Search" "GuidePlans$Search" "quarters" "[I") ∈ gw := gw_1 108 rfl rfl
theorem w1_109 : (Jvm.Cond.soleField "GuidePlans$Search" "quarters") ∈ gw := gw_1 109 rfl rfl
theorem w1_110 : (Jvm.Cond.lays "GuidePlans$Search" "GuidePlans$Search" "changeWeight" "I") ∈ gw := gw_1 110 rfl rfl
theorem w1_111 : (Jvm.Cond.soleField "GuidePlans$Search" "changeWeight") ∈ gw := gw_1 111 rfl rfl
theorem w1_112 : (Jvm.Cond.lays "GuidePlans$Search" "GuidePlans$Search" "costWeight" "I") ∈ gw := gw_1 112 rfl rfl
theorem w1_113 : (Jvm.Cond.soleField "GuidePlans$Search" "costWeight") ∈ gw := gw_1 113 rfl rfl
theorem w1_114 : (Jvm.Cond.lays "GuidePlans$Search" "GuidePlans$Search" "bestScore" "I") ∈ gw := gw_1 114 rfl rfl
theorem w1_115 : (Jvm.Cond.soleField "GuidePlans$Search" "bestScore") ∈ gw := gw_1 115 rfl rfl
theorem w1_116 : (Jvm.Cond.superclass "GuidePlans$Search" "java/lang/Object") ∈ gw := gw_1 116 rfl rfl
theorem w1_117 : (Jvm.Cond.fieldLink "GuidePlans" (10 : Nat) "GuidePlans" "day" "LGuidePlans$Day;") ∈ gw := gw_1 117 rfl rfl
theorem w1_118 : (Jvm.Cond.fieldLink "GuidePlans" (19 : Nat) "GuidePlans" "search" "LGuidePlans$Search;") ∈ gw := gw_1 118 rfl rfl
theorem w1_119 : (Jvm.Cond.fieldLink "GuidePlans" (23 : Nat) "GuidePlans" "plan" "[I") ∈ gw := gw_1 119 rfl rfl
theorem w1_120 : (Jvm.Cond.fieldLink "GuidePlans" (27 : Nat) "GuidePlans" "changedTasks" "[I") ∈ gw := gw_1 120 rfl rfl
theorem w1_121 : (Jvm.Cond.fieldLink "GuidePlans" (30 : Nat) "GuidePlans" "changes" "I") ∈ gw := gw_1 121 rfl rfl
theorem w1_122 : (Jvm.Cond.fieldLink "GuidePlans" (34 : Nat) "GuidePlans" "frozenUntil" "I") ∈ gw := gw_1 122 rfl rfl
theorem w1_123 : (Jvm.Cond.fieldLink "GuidePlans" (37 : Nat) "GuidePlans" "lackingBegin" "I") ∈ gw := gw_1 123 rfl rfl
theorem w1_124 : (Jvm.Cond.fieldLink "GuidePlans" (40 : Nat) "GuidePlans" "planned" "Z") ∈ gw := gw_1 124 rfl rfl
theorem w1_125 : (Jvm.Cond.laysFinal "GuidePlans" "GuidePlans" "day" "LGuidePlans$Day;") ∈ gw := gw_1 125 rfl rfl
theorem w1_126 : (Jvm.Cond.soleField "GuidePlans" "day") ∈ gw := gw_1 126 rfl rfl
theorem w1_127 : (Jvm.Cond.laysFinal "GuidePlans" "GuidePlans" "search" "LGuidePlans$Search;") ∈ gw := gw_1 127 rfl rfl
theorem w1_128 : (Jvm.Cond.soleField "GuidePlans" "search") ∈ gw := gw_1 128 rfl rfl
theorem w1_129 : (Jvm.Cond.laysFinal "GuidePlans" "GuidePlans" "plan" "[I") ∈ gw := gw_1 129 rfl rfl
theorem w1_130 : (Jvm.Cond.soleField "GuidePlans" "plan") ∈ gw := gw_1 130 rfl rfl
theorem w1_131 : (Jvm.Cond.laysFinal "GuidePlans" "GuidePlans" "changedTasks" "[I") ∈ gw := gw_1 131 rfl rfl
theorem w1_132 : (Jvm.Cond.soleField "GuidePlans" "changedTasks") ∈ gw := gw_1 132 rfl rfl
theorem w1_133 : (Jvm.Cond.lays "GuidePlans" "GuidePlans" "changes" "I") ∈ gw := gw_1 133 rfl rfl
theorem w1_134 : (Jvm.Cond.soleField "GuidePlans" "changes") ∈ gw := gw_1 134 rfl rfl
theorem w1_135 : (Jvm.Cond.lays "GuidePlans" "GuidePlans" "frozenUntil" "I") ∈ gw := gw_1 135 rfl rfl
theorem w1_136 : (Jvm.Cond.soleField "GuidePlans" "frozenUntil") ∈ gw := gw_1 136 rfl rfl
theorem w1_137 : (Jvm.Cond.lays "GuidePlans" "GuidePlans" "lackingBegin" "I") ∈ gw := gw_1 137 rfl rfl
theorem w1_138 : (Jvm.Cond.soleField "GuidePlans" "lackingBegin") ∈ gw := gw_1 138 rfl rfl
theorem w1_139 : (Jvm.Cond.lays "GuidePlans" "GuidePlans" "planned" "Z") ∈ gw := gw_1 139 rfl rfl
theorem w1_140 : (Jvm.Cond.soleField "GuidePlans" "planned") ∈ gw := gw_1 140 rfl rfl
theorem w1_141 : (Jvm.Cond.superclass "GuidePlans" "java/lang/Object") ∈ gw := gw_1 141 rfl rfl
theorem w1_142 : (Jvm.Cond.methodLink "GuidePlansLaw" (89 : Nat) ({ cls := "GuidePlans", name := "run", desc := "()I" } : Jvm.MethodName)) ∈ gw := gw_1 142 rfl rfl
theorem w1_143 : (Jvm.Cond.instanceMethod ({ cls := "GuidePlans", name := "run", desc := "()I" } : Jvm.MethodName)) ∈ gw := gw_1 143 rfl rfl
theorem w1_144 : (Jvm.Cond.selects "GuidePlans" ({ cls := "GuidePlans", name := "run", desc := "()I" } : Jvm.MethodName) ({ cls := "GuidePlans", name := "run", desc := "()I" } : Jvm.MethodName)) ∈ gw := gw_1 144 rfl rfl
theorem w1_145 : (Jvm.Cond.code ({ cls := "GuidePlans", name := "run", desc := "()I" } : Jvm.MethodName) prog_1_method_8_code (1 : Nat) (Option.some Jvm.ClassFile.FieldType.int)) ∈ gw := gw_1 145 rfl rfl
theorem w1_146 : (Jvm.Cond.methodLink "GuidePlans" (104 : Nat) ({ cls := "GuidePlans$Search", name := "findAnew", desc := "(LGuidePlans$Day;[I)Z" } : Jvm.MethodName)) ∈ gw := gw_1 146 rfl rfl
theorem w1_147 : (Jvm.Cond.instanceMethod ({ cls := "GuidePlans$Search", name := "findAnew", desc := "(LGuidePlans$Day;[I)Z" } : Jvm.MethodName)) ∈ gw := gw_1 147 rfl rfl
theorem w1_148 : (Jvm.Cond.selects "GuidePlans$Search" ({ cls := "GuidePlans$Search", name := "findAnew", desc := "(LGuidePlans$Day;[I)Z" } : Jvm.MethodName) ({ cls := "GuidePlans$Search", name := "findAnew", desc := "(LGuidePlans$Day;[I)Z" } : Jvm.MethodName)) ∈ gw := gw_1 148 rfl rfl
theorem w1_149 : (Jvm.Cond.code ({ cls := "GuidePlans$Search", name := "findAnew", desc := "(LGuidePlans$Day;[I)Z" } : Jvm.MethodName) prog_3_method_2_code (3 : Nat) (Option.some Jvm.ClassFile.FieldType.boolean)) ∈ gw := gw_1 149 rfl rfl
theorem w1_150 : (Jvm.Cond.methodLink "GuidePlans$Search" (46 : Nat) ({ cls := "GuidePlans$Search", name := "find", desc := "(LGuidePlans$Day;[III)Z" } : Jvm.MethodName)) ∈ gw := gw_1 150 rfl rfl
theorem w1_152 : (Jvm.Cond.instanceMethod ({ cls := "GuidePlans$Search", name := "find", desc := "(LGuidePlans$Day;[III)Z" } : Jvm.MethodName)) ∈ gw := gw_1 152 rfl rfl
theorem w1_153 : (Jvm.Cond.code ({ cls := "GuidePlans$Search", name := "find", desc := "(LGuidePlans$Day;[III)Z" } : Jvm.MethodName) prog_3_method_5_code (8 : Nat) (Option.some Jvm.ClassFile.FieldType.boolean)) ∈ gw := gw_1 153 rfl rfl
theorem w1_154 : (Jvm.Cond.methodLink "GuidePlans$Search" (57 : Nat) ({ cls := "GuidePlans$Search", name := "bitOf", desc := "(I)I" } : Jvm.MethodName)) ∈ gw := gw_1 154 rfl rfl
theorem w1_156 : (Jvm.Cond.instanceMethod ({ cls := "GuidePlans$Search", name := "bitOf", desc := "(I)I" } : Jvm.MethodName)) ∈ gw := gw_1 156 rfl rfl
theorem w1_157 : (Jvm.Cond.code ({ cls := "GuidePlans$Search", name := "bitOf", desc := "(I)I" } : Jvm.MethodName) prog_3_method_6_code (2 : Nat) (Option.some Jvm.ClassFile.FieldType.int)) ∈ gw := gw_1 157 rfl rfl
theorem w1_158 : (Jvm.Cond.methodLink "GuidePlans$Search" (61 : Nat) ({ cls := "GuidePlans$Search", name := "bitsOfSuiting", desc := "(LGuidePlans$Day;I)I" } : Jvm.MethodName)) ∈ gw := gw_1 158 rfl rfl
theorem w1_160 : (Jvm.Cond.instanceMethod ({ cls := "GuidePlans$Search", name := "bitsOfSuiting", desc := "(LGuidePlans$Day;I)I" } : Jvm.MethodName)) ∈ gw := gw_1 160 rfl rfl
theorem w1_161 : (Jvm.Cond.code ({ cls := "GuidePlans$Search", name := "bitsOfSuiting", desc := "(LGuidePlans$Day;I)I" } : Jvm.MethodName) prog_3_method_7_code (5 : Nat) (Option.some Jvm.ClassFile.FieldType.int)) ∈ gw := gw_1 161 rfl rfl
theorem w1_162 : (Jvm.Cond.methodLink "GuidePlans$Search" (75 : Nat) ({ cls := "GuidePlans$Day", name := "suits", desc := "(II)Z" } : Jvm.MethodName)) ∈ gw := gw_1 162 rfl rfl
theorem w1_163 : (Jvm.Cond.instanceMethod ({ cls := "GuidePlans$Day", name := "suits", desc := "(II)Z" } : Jvm.MethodName)) ∈ gw := gw_1 163 rfl rfl
theorem w1_164 : (Jvm.Cond.selects "GuidePlans$Day" ({ cls := "GuidePlans$Day", name := "suits", desc := "(II)Z" } : Jvm.MethodName) ({ cls := "GuidePlans$Day", name := "suits", desc := "(II)Z" } : Jvm.MethodName)) ∈ gw := gw_1 164 rfl rfl
theorem w1_165 : (Jvm.Cond.code ({ cls := "GuidePlans$Day", name := "suits", desc := "(II)Z" } : Jvm.MethodName) prog_2_method_9_code (3 : Nat) (Option.some Jvm.ClassFile.FieldType.boolean)) ∈ gw := gw_1 165 rfl rfl
theorem w1_166 : (Jvm.Cond.methodLink "GuidePlans$Day" (57 : Nat) ({ cls := "GuidePlans$Day", name := "hasPerson", desc := "(I)Z" } : Jvm.MethodName)) ∈ gw := gw_1 166 rfl rfl
theorem w1_167 : (Jvm.Cond.instanceMethod ({ cls := "GuidePlans$Day", name := "hasPerson", desc := "(I)Z" } : Jvm.MethodName)) ∈ gw := gw_1 167 rfl rfl
theorem w1_168 : (Jvm.Cond.selects "GuidePlans$Day" ({ cls := "GuidePlans$Day", name := "hasPerson", desc := "(I)Z" } : Jvm.MethodName) ({ cls := "GuidePlans$Day", name := "hasPerson", desc := "(I)Z" } : Jvm.MethodName)) ∈ gw := gw_1 168 rfl rfl
theorem w1_169 : (Jvm.Cond.code ({ cls := "GuidePlans$Day", name := "hasPerson", desc := "(I)Z" } : Jvm.MethodName) prog_2_method_2_code (2 : Nat) (Option.some Jvm.ClassFile.FieldType.boolean)) ∈ gw := gw_1 169 rfl rfl
theorem w1_170 : (Jvm.Cond.methodLink "GuidePlans$Day" (53 : Nat) ({ cls := "GuidePlans$Day", name := "hasTask", desc := "(I)Z" } : Jvm.MethodName)) ∈ gw := gw_1 170 rfl rfl
theorem w1_171 : (Jvm.Cond.instanceMethod ({ cls := "GuidePlans$Day", name := "hasTask", desc := "(I)Z" } : Jvm.MethodName)) ∈ gw := gw_1 171 rfl rfl
theorem w1_172 : (Jvm.Cond.selects "GuidePlans$Day" ({ cls := "GuidePlans$Day", name := "hasTask", desc := "(I)Z" } : Jvm.MethodName) ({ cls := "GuidePlans$Day", name := "hasTask", desc := "(I)Z" } : Jvm.MethodName)) ∈ gw := gw_1 172 rfl rfl
theorem w1_173 : (Jvm.Cond.code ({ cls := "GuidePlans$Day", name := "hasTask", desc := "(I)Z" } : Jvm.MethodName) prog_2_method_3_code (2 : Nat) (Option.some Jvm.ClassFile.FieldType.boolean)) ∈ gw := gw_1 173 rfl rfl
theorem w1_174 : (Jvm.Cond.methodLink "GuidePlans$Day" (60 : Nat) ({ cls := "GuidePlans$Day", name := "isOffIn", desc := "(II)Z" } : Jvm.MethodName)) ∈ gw := gw_1 174 rfl rfl
theorem w1_176 : (Jvm.Cond.instanceMethod ({ cls := "GuidePlans$Day", name := "isOffIn", desc := "(II)Z" } : Jvm.MethodName)) ∈ gw := gw_1 176 rfl rfl
theorem w1_177 : (Jvm.Cond.code ({ cls := "GuidePlans$Day", name := "isOffIn", desc := "(II)Z" } : Jvm.MethodName) prog_2_method_10_code (4 : Nat) (Option.some Jvm.ClassFile.FieldType.boolean)) ∈ gw := gw_1 177 rfl rfl
theorem w1_178 : (Jvm.Cond.methodLink "GuidePlans$Search" (65 : Nat) ({ cls := "GuidePlans$Search", name := "bitsOfTooNear", desc := "(LGuidePlans$Day;I)I" } : Jvm.MethodName)) ∈ gw := gw_1 178 rfl rfl
theorem w1_180 : (Jvm.Cond.instanceMethod ({ cls := "GuidePlans$Search", name := "bitsOfTooNear", desc := "(LGuidePlans$Day;I)I" } : Jvm.MethodName)) ∈ gw := gw_1 180 rfl rfl
theorem w1_181 : (Jvm.Cond.code ({ cls := "GuidePlans$Search", name := "bitsOfTooNear", desc := "(LGuidePlans$Day;I)I" } : Jvm.MethodName) prog_3_method_8_code (5 : Nat) (Option.some Jvm.ClassFile.FieldType.int)) ∈ gw := gw_1 181 rfl rfl
theorem w1_182 : (Jvm.Cond.methodLink "GuidePlans$Search" (79 : Nat) ({ cls := "GuidePlans$Day", name := "areTooNear", desc := "(II)Z" } : Jvm.MethodName)) ∈ gw := gw_1 182 rfl rfl
theorem w1_183 : (Jvm.Cond.instanceMethod ({ cls := "GuidePlans$Day", name := "areTooNear", desc := "(II)Z" } : Jvm.MethodName)) ∈ gw := gw_1 183 rfl rfl
theorem w1_184 : (Jvm.Cond.selects "GuidePlans$Day" ({ cls := "GuidePlans$Day", name := "areTooNear", desc := "(II)Z" } : Jvm.MethodName) ({ cls := "GuidePlans$Day", name := "areTooNear", desc := "(II)Z" } : Jvm.MethodName)) ∈ gw := gw_1 184 rfl rfl
theorem w1_185 : (Jvm.Cond.code ({ cls := "GuidePlans$Day", name := "areTooNear", desc := "(II)Z" } : Jvm.MethodName) prog_2_method_11_code (3 : Nat) (Option.some Jvm.ClassFile.FieldType.boolean)) ∈ gw := gw_1 185 rfl rfl
theorem w1_186 : (Jvm.Cond.methodLink "GuidePlans$Search" (68 : Nat) ({ cls := "GuidePlans$Search", name := "place", desc := "(LGuidePlans$Day;[III)V" } : Jvm.MethodName)) ∈ gw := gw_1 186 rfl rfl
theorem w1_188 : (Jvm.Cond.instanceMethod ({ cls := "GuidePlans$Search", name := "place", desc := "(LGuidePlans$Day;[III)V" } : Jvm.MethodName)) ∈ gw := gw_1 188 rfl rfl
theorem w1_189 : (Jvm.Cond.code ({ cls := "GuidePlans$Search", name := "place", desc := "(LGuidePlans$Day;[III)V" } : Jvm.MethodName) prog_3_method_9_code (6 : Nat) (Option.none : Option Jvm.ClassFile.FieldType)) ∈ gw := gw_1 189 rfl rfl
theorem w1_190 : (Jvm.Cond.methodLink "GuidePlans$Search" (82 : Nat) ({ cls := "GuidePlans$Search", name := "keepTrial", desc := "(II)V" } : Jvm.MethodName)) ∈ gw := gw_1 190 rfl rfl
theorem w1_192 : (Jvm.Cond.instanceMethod ({ cls := "GuidePlans$Search", name := "keepTrial", desc := "(II)V" } : Jvm.MethodName)) ∈ gw := gw_1 192 rfl rfl
theorem w1_193 : (Jvm.Cond.code ({ cls := "GuidePlans$Search", name := "keepTrial", desc := "(II)V" } : Jvm.MethodName) prog_3_method_13_code (4 : Nat) (Option.none : Option Jvm.ClassFile.FieldType)) ∈ gw := gw_1 193 rfl rfl
theorem w1_194 : (Jvm.Cond.methodLink "GuidePlans$Search" (86 : Nat) ({ cls := "GuidePlans$Search", name := "mayTake", desc := "(LGuidePlans$Day;II)Z" } : Jvm.MethodName)) ∈ gw := gw_1 194 rfl rfl
theorem w1_196 : (Jvm.Cond.instanceMethod ({ cls := "GuidePlans$Search", name := "mayTake", desc := "(LGuidePlans$Day;II)Z" } : Jvm.MethodName)) ∈ gw := gw_1 196 rfl rfl
theorem w1_197 : (Jvm.Cond.code ({ cls := "GuidePlans$Search", name := "mayTake", desc := "(LGuidePlans$Day;II)Z" } : Jvm.MethodName) prog_3_method_10_code (4 : Nat) (Option.some Jvm.ClassFile.FieldType.boolean)) ∈ gw := gw_1 197 rfl rfl
theorem w1_198 : (Jvm.Cond.methodLink "GuidePlans$Search" (98 : Nat) ({ cls := "GuidePlans$Day", name := "lengthOf", desc := "(I)I" } : Jvm.MethodName)) ∈ gw := gw_1 198 rfl rfl
theorem w1_199 : (Jvm.Cond.instanceMethod ({ cls := "GuidePlans$Day", name := "lengthOf", desc := "(I)I" } : Jvm.MethodName)) ∈ gw := gw_1 199 rfl rfl
theorem w1_200 : (Jvm.Cond.selects "GuidePlans$Day" ({ cls := "GuidePlans$Day", name := "lengthOf", desc := "(I)I" } : Jvm.MethodName) ({ cls := "GuidePlans$Day", name := "lengthOf", desc := "(I)I" } : Jvm.MethodName)) ∈ gw := gw_1 200 rfl rfl
theorem w1_201 : (Jvm.Cond.code ({ cls := "GuidePlans$Day", name := "lengthOf", desc := "(I)I" } : Jvm.MethodName) prog_2_method_8_code (2 : Nat) (Option.some Jvm.ClassFile.FieldType.int)) ∈ gw := gw_1 201 rfl rfl
theorem w1_202 : (Jvm.Cond.methodLink "GuidePlans$Search" (90 : Nat) ({ cls := "GuidePlans$Search", name := "placePerson", desc := "(LGuidePlans$Day;[IIII)V" } : Jvm.MethodName)) ∈ gw := gw_1 202 rfl rfl
theorem w1_204 : (Jvm.Cond.instanceMethod ({ cls := "GuidePlans$Search", name := "placePerson", desc := "(LGuidePlans$Day;[IIII)V" } : Jvm.MethodName)) ∈ gw := gw_1 204 rfl rfl
theorem w1_205 : (Jvm.Cond.code ({ cls := "GuidePlans$Search", name := "placePerson", desc := "(LGuidePlans$Day;[IIII)V" } : Jvm.MethodName) prog_3_method_11_code (8 : Nat) (Option.none : Option Jvm.ClassFile.FieldType)) ∈ gw := gw_1 205 rfl rfl
theorem w1_206 : (Jvm.Cond.methodLink "GuidePlans$Search" (104 : Nat) ({ cls := "java/lang/Integer", name := "bitCount", desc := "(I)I" } : Jvm.MethodName)) ∈ gw := gw_1 206 rfl rfl
theorem w1_207 : (Jvm.Cond.static ({ cls := "java/lang/Integer", name := "bitCount", desc := "(I)I" } : Jvm.MethodName)) ∈ gw := gw_1 207 rfl rfl
theorem w1_208 : (Jvm.Cond.code ({ cls := "java/lang/Integer", name := "bitCount", desc := "(I)I" } : Jvm.MethodName) prog_9_method_49_code (1 : Nat) (Option.some Jvm.ClassFile.FieldType.int)) ∈ gw := gw_1 208 rfl rfl
theorem w1_209 : (Jvm.Cond.constant "java/lang/Integer" (265 : Nat) (1431655765 : Int32)) ∈ gw := gw_1 209 rfl rfl
theorem w1_210 : (Jvm.Cond.constant "java/lang/Integer" (266 : Nat) (858993459 : Int32)) ∈ gw := gw_1 210 rfl rfl
theorem w1_211 : (Jvm.Cond.constant "java/lang/Integer" (267 : Nat) (252645135 : Int32)) ∈ gw := gw_1 211 rfl rfl
theorem w1_212 : (Jvm.Cond.methodLink "GuidePlans$Search" (94 : Nat) ({ cls := "GuidePlans$Search", name := "weightOf", desc := "(III)I" } : Jvm.MethodName)) ∈ gw := gw_1 212 rfl rfl
theorem w1_214 : (Jvm.Cond.instanceMethod ({ cls := "GuidePlans$Search", name := "weightOf", desc := "(III)I" } : Jvm.MethodName)) ∈ gw := gw_1 214 rfl rfl
theorem w1_215 : (Jvm.Cond.code ({ cls := "GuidePlans$Search", name := "weightOf", desc := "(III)I" } : Jvm.MethodName) prog_3_method_12_code (5 : Nat) (Option.some Jvm.ClassFile.FieldType.int)) ∈ gw := gw_1 215 rfl rfl
theorem w1_216 : (Jvm.Cond.methodLink "GuidePlans" (108 : Nat) ({ cls := "GuidePlans$Search", name := "firstLacking", desc := "(LGuidePlans$Day;[II)I" } : Jvm.MethodName)) ∈ gw := gw_1 216 rfl rfl
theorem w1_217 : (Jvm.Cond.instanceMethod ({ cls := "GuidePlans$Search", name := "firstLacking", desc := "(LGuidePlans$Day;[II)I" } : Jvm.MethodName)) ∈ gw := gw_1 217 rfl rfl
theorem w1_218 : (Jvm.Cond.selects "GuidePlans$Search" ({ cls := "GuidePlans$Search", name := "firstLacking", desc := "(LGuidePlans$Day;[II)I" } : Jvm.MethodName) ({ cls := "GuidePlans$Search", name := "firstLacking", desc := "(LGuidePlans$Day;[II)I" } : Jvm.MethodName)) ∈ gw := gw_1 218 rfl rfl
theorem w1_219 : (Jvm.Cond.code ({ cls := "GuidePlans$Search", name := "firstLacking", desc := "(LGuidePlans$Day;[II)I" } : Jvm.MethodName) prog_3_method_4_code (5 : Nat) (Option.some Jvm.ClassFile.FieldType.int)) ∈ gw := gw_1 219 rfl rfl
theorem w1_220 : (Jvm.Cond.methodLink "GuidePlans" (112 : Nat) ({ cls := "GuidePlans", name := "adoptFoundPlan", desc := "()V" } : Jvm.MethodName)) ∈ gw := gw_1 220 rfl rfl
theorem w1_222 : (Jvm.Cond.instanceMethod ({ cls := "GuidePlans", name := "adoptFoundPlan", desc := "()V" } : Jvm.MethodName)) ∈ gw := gw_1 222 rfl rfl
theorem w1_223 : (Jvm.Cond.code ({ cls := "GuidePlans", name := "adoptFoundPlan", desc := "()V" } : Jvm.MethodName) prog_1_method_24_code (2 : Nat) (Option.none : Option Jvm.ClassFile.FieldType)) ∈ gw := gw_1 223 rfl rfl
theorem w1_224 : (Jvm.Cond.methodLink "GuidePlans" (115 : Nat) ({ cls := "GuidePlans", name := "planCost", desc := "()I" } : Jvm.MethodName)) ∈ gw := gw_1 224 rfl rfl
theorem w1_226 : (Jvm.Cond.instanceMethod ({ cls := "GuidePlans", name := "planCost", desc := "()I" } : Jvm.MethodName)) ∈ gw := gw_1 226 rfl rfl
theorem w1_227 : (Jvm.Cond.code ({ cls := "GuidePlans", name := "planCost", desc := "()I" } : Jvm.MethodName) prog_1_method_26_code (4 : Nat) (Option.some Jvm.ClassFile.FieldType.int)) ∈ gw := gw_1 227 rfl rfl
theorem w1_228 : (Jvm.Cond.methodLink "GuidePlans" (154 : Nat) ({ cls := "GuidePlans", name := "numberOfTasks", desc := "(I)I" } : Jvm.MethodName)) ∈ gw := gw_1 228 rfl rfl
theorem w1_230 : (Jvm.Cond.instanceMethod ({ cls := "GuidePlans", name := "numberOfTasks", desc := "(I)I" } : Jvm.MethodName)) ∈ gw := gw_1 230 rfl rfl
theorem w1_231 : (Jvm.Cond.code ({ cls := "GuidePlans", name := "numberOfTasks", desc := "(I)I" } : Jvm.MethodName) prog_1_method_27_code (4 : Nat) (Option.some Jvm.ClassFile.FieldType.int)) ∈ gw := gw_1 231 rfl rfl
theorem w1_232 : (Jvm.Cond.methodLink "GuidePlansLaw" (93 : Nat) ({ cls := "GuidePlans", name := "told", desc := "()I" } : Jvm.MethodName)) ∈ gw := gw_1 232 rfl rfl
theorem w1_233 : (Jvm.Cond.instanceMethod ({ cls := "GuidePlans", name := "told", desc := "()I" } : Jvm.MethodName)) ∈ gw := gw_1 233 rfl rfl
theorem w1_234 : (Jvm.Cond.selects "GuidePlans" ({ cls := "GuidePlans", name := "told", desc := "()I" } : Jvm.MethodName) ({ cls := "GuidePlans", name := "told", desc := "()I" } : Jvm.MethodName)) ∈ gw := gw_1 234 rfl rfl
theorem w1_235 : (Jvm.Cond.code ({ cls := "GuidePlans", name := "told", desc := "()I" } : Jvm.MethodName) prog_1_method_9_code (1 : Nat) (Option.some Jvm.ClassFile.FieldType.int)) ∈ gw := gw_1 235 rfl rfl
theorem w1_236 : (Jvm.Cond.methodLink "GuidePlansLaw" (117 : Nat) ({ cls := "GuidePlans", name := "fair", desc := "()I" } : Jvm.MethodName)) ∈ gw := gw_1 236 rfl rfl
theorem w1_237 : (Jvm.Cond.instanceMethod ({ cls := "GuidePlans", name := "fair", desc := "()I" } : Jvm.MethodName)) ∈ gw := gw_1 237 rfl rfl
theorem w1_238 : (Jvm.Cond.selects "GuidePlans" ({ cls := "GuidePlans", name := "fair", desc := "()I" } : Jvm.MethodName) ({ cls := "GuidePlans", name := "fair", desc := "()I" } : Jvm.MethodName)) ∈ gw := gw_1 238 rfl rfl
theorem w1_239 : (Jvm.Cond.code ({ cls := "GuidePlans", name := "fair", desc := "()I" } : Jvm.MethodName) prog_1_method_16_code (5 : Nat) (Option.some Jvm.ClassFile.FieldType.int)) ∈ gw := gw_1 239 rfl rfl
theorem w2_0 : (Jvm.Cond.methodLink "GuidePlans" (157 : Nat) ({ cls := "java/lang/Math", name := "max", desc := "(II)I" } : Jvm.MethodName)) ∈ gw := gw_2 0 rfl rfl
theorem w2_1 : (Jvm.Cond.static ({ cls := "java/lang/Math", name := "max", desc := "(II)I" } : Jvm.MethodName)) ∈ gw := gw_2 1 rfl rfl
theorem w2_2 : (Jvm.Cond.code ({ cls := "java/lang/Math", name := "max", desc := "(II)I" } : Jvm.MethodName) prog_10_method_65_code (2 : Nat) (Option.some Jvm.ClassFile.FieldType.int)) ∈ gw := gw_2 2 rfl rfl
theorem w2_3 : (Jvm.Cond.methodLink "GuidePlans" (162 : Nat) ({ cls := "java/lang/Math", name := "min", desc := "(II)I" } : Jvm.MethodName)) ∈ gw := gw_2 3 rfl rfl
theorem w2_4 : (Jvm.Cond.static ({ cls := "java/lang/Math", name := "min", desc := "(II)I" } : Jvm.MethodName)) ∈ gw := gw_2 4 rfl rfl
theorem w2_5 : (Jvm.Cond.code ({ cls := "java/lang/Math", name := "min", desc := "(II)I" } : Jvm.MethodName) prog_10_method_69_code (2 : Nat) (Option.some Jvm.ClassFile.FieldType.int)) ∈ gw := gw_2 5 rfl rfl
theorem w2_6 : (Jvm.Cond.methodLink "GuidePlansLaw" (63 : Nat) ({ cls := "GuidePlansLaw", name := "person", desc := "(LGuidePlans;I[J)I" } : Jvm.MethodName)) ∈ gw := gw_2 6 rfl rfl
theorem w2_7 : (Jvm.Cond.static ({ cls := "GuidePlansLaw", name := "person", desc := "(LGuidePlans;I[J)I" } : Jvm.MethodName)) ∈ gw := gw_2 7 rfl rfl
theorem w2_8 : (Jvm.Cond.codeWith ({ cls := "GuidePlansLaw", name := "person", desc := "(LGuidePlans;I[J)I" } : Jvm.MethodName) method_3_code (4 : Nat) (Option.some Jvm.ClassFile.FieldType.int) [((0 : Nat), (9 : Nat), (12 : Nat), (13 : Nat)), ((0 : Nat), (9 : Nat), (15 : Nat), (15 : Nat))]) ∈ gw := gw_2 8 rfl rfl
theorem w2_9 : (Jvm.Cond.classLink "GuidePlansLaw" (13 : Nat) "java/lang/IllegalArgumentException") ∈ gw := gw_2 9 rfl rfl
theorem w2_10 : (Jvm.Cond.classLink "GuidePlansLaw" (15 : Nat) "java/lang/IllegalStateException") ∈ gw := gw_2 10 rfl rfl
theorem w2_11 : (Jvm.Cond.methodLink "GuidePlansLaw" (7 : Nat) ({ cls := "GuidePlans", name := "person", desc := "(I)I" } : Jvm.MethodName)) ∈ gw := gw_2 11 rfl rfl
theorem w2_12 : (Jvm.Cond.instanceMethod ({ cls := "GuidePlans", name := "person", desc := "(I)I" } : Jvm.MethodName)) ∈ gw := gw_2 12 rfl rfl
theorem w2_13 : (Jvm.Cond.selects "GuidePlans" ({ cls := "GuidePlans", name := "person", desc := "(I)I" } : Jvm.MethodName) ({ cls := "GuidePlans", name := "person", desc := "(I)I" } : Jvm.MethodName)) ∈ gw := gw_2 13 rfl rfl
theorem w2_14 : (Jvm.Cond.code ({ cls := "GuidePlans", name := "person", desc := "(I)I" } : Jvm.MethodName) prog_1_method_2_code (2 : Nat) (Option.some Jvm.ClassFile.FieldType.int)) ∈ gw := gw_2 14 rfl rfl
theorem w2_15 : (Jvm.Cond.classLink "GuidePlans" (44 : Nat) "java/lang/IllegalArgumentException") ∈ gw := gw_2 15 rfl rfl
theorem w2_16 : (Jvm.Cond.instantiable "java/lang/IllegalArgumentException" (6 : Nat)) ∈ gw := gw_2 16 rfl rfl
theorem w2_24 : (Jvm.Cond.selects "java/lang/IllegalArgumentException" ({ cls := "java/lang/Throwable", name := "fillInStackTrace", desc := "(I)Ljava/lang/Throwable;" } : Jvm.MethodName) ({ cls := "java/lang/Throwable", name := "fillInStackTrace", desc := "(I)Ljava/lang/Throwable;" } : Jvm.MethodName)) ∈ gw := gw_2 24 rfl rfl
theorem w2_25 : (Jvm.Cond.selects "java/lang/IllegalArgumentException" ({ cls := "java/lang/Throwable", name := "fillInStackTrace", desc := "()Ljava/lang/Throwable;" } : Jvm.MethodName) ({ cls := "java/lang/Throwable", name := "fillInStackTrace", desc := "()Ljava/lang/Throwable;" } : Jvm.MethodName)) ∈ gw := gw_2 25 rfl rfl
theorem w2_26 : (Jvm.Cond.lays "java/lang/IllegalArgumentException" "java/lang/Throwable" "cause" "Ljava/lang/Throwable;") ∈ gw := gw_2 26 rfl rfl
theorem w2_27 : (Jvm.Cond.lays "java/lang/Throwable" "java/lang/Throwable" "cause" "Ljava/lang/Throwable;") ∈ gw := gw_2 27 rfl rfl
theorem w2_28 : (Jvm.Cond.lays "java/lang/IllegalArgumentException" "java/lang/Throwable" "stackTrace" "[Ljava/lang/StackTraceElement;") ∈ gw := gw_2 28 rfl rfl
theorem w2_29 : (Jvm.Cond.lays "java/lang/Throwable" "java/lang/Throwable" "stackTrace" "[Ljava/lang/StackTraceElement;") ∈ gw := gw_2 29 rfl rfl
theorem w2_30 : (Jvm.Cond.lays "java/lang/IllegalArgumentException" "java/lang/Throwable" "suppressedExceptions" "Ljava/util/List;") ∈ gw := gw_2 30 rfl rfl
theorem w2_31 : (Jvm.Cond.lays "java/lang/Throwable" "java/lang/Throwable" "suppressedExceptions" "Ljava/util/List;") ∈ gw := gw_2 31 rfl rfl
theorem w2_32 : (Jvm.Cond.lays "java/lang/IllegalArgumentException" "java/lang/Throwable" "detailMessage" "Ljava/lang/String;") ∈ gw := gw_2 32 rfl rfl
theorem w2_33 : (Jvm.Cond.lays "java/lang/Throwable" "java/lang/Throwable" "detailMessage" "Ljava/lang/String;") ∈ gw := gw_2 33 rfl rfl
theorem w2_34 : (Jvm.Cond.lays "java/lang/IllegalArgumentException" "java/lang/Throwable" "backtrace" "Ljava/lang/Object;") ∈ gw := gw_2 34 rfl rfl
theorem w2_35 : (Jvm.Cond.lays "java/lang/Throwable" "java/lang/Throwable" "backtrace" "Ljava/lang/Object;") ∈ gw := gw_2 35 rfl rfl
theorem w2_36 : (Jvm.Cond.fieldLink "java/lang/Throwable" (198 : Nat) "java/lang/Throwable" "backtrace" "Ljava/lang/Object;") ∈ gw := gw_2 36 rfl rfl
theorem w2_37 : (Jvm.Cond.superclass "java/lang/Throwable" "java/lang/Object") ∈ gw := gw_2 37 rfl rfl
theorem w2_38 : (Jvm.Cond.instanceMethod ({ cls := "java/lang/Throwable", name := "<init>", desc := "()V" } : Jvm.MethodName)) ∈ gw := gw_2 38 rfl rfl
theorem w2_39 : (Jvm.Cond.code ({ cls := "java/lang/Throwable", name := "<init>", desc := "()V" } : Jvm.MethodName) prog_13_method_1_code (1 : Nat) (Option.none : Option Jvm.ClassFile.FieldType)) ∈ gw := gw_2 39 rfl rfl
theorem w2_40 : (Jvm.Cond.methodLink "java/lang/Throwable" (1 : Nat) ({ cls := "java/lang/Object", name := "<init>", desc := "()V" } : Jvm.MethodName)) ∈ gw := gw_2 40 rfl rfl
theorem w2_41 : (Jvm.Cond.fieldLink "java/lang/Throwable" (13 : Nat) "java/lang/Throwable" "UNASSIGNED_STACK" "[Ljava/lang/StackTraceElement;") ∈ gw := gw_2 41 rfl rfl
theorem w2_43 : (Jvm.Cond.fieldLink "java/lang/Throwable" (20 : Nat) "java/lang/Throwable" "SUPPRESSED_SENTINEL" "Ljava/util/List;") ∈ gw := gw_2 43 rfl rfl
theorem w2_45 : (Jvm.Cond.methodLink "java/lang/Throwable" (27 : Nat) ({ cls := "java/lang/Throwable", name := "fillInStackTrace", desc := "()Ljava/lang/Throwable;" } : Jvm.MethodName)) ∈ gw := gw_2 45 rfl rfl
theorem w2_46 : (Jvm.Cond.instanceMethod ({ cls := "java/lang/Throwable", name := "fillInStackTrace", desc := "()Ljava/lang/Throwable;" } : Jvm.MethodName)) ∈ gw := gw_2 46 rfl rfl
theorem w2_47 : (Jvm.Cond.sameMethod "java/lang/Throwable" "java/lang/Throwable" "fillInStackTrace" "()Ljava/lang/Throwable;") ∈ gw := gw_2 47 rfl rfl
theorem w2_48 : (Jvm.Cond.selects "java/lang/IllegalStateException" ({ cls := "java/lang/Throwable", name := "fillInStackTrace", desc := "()Ljava/lang/Throwable;" } : Jvm.MethodName) ({ cls := "java/lang/Throwable", name := "fillInStackTrace", desc := "()Ljava/lang/Throwable;" } : Jvm.MethodName)) ∈ gw := gw_2 48 rfl rfl
theorem w2_49 : (Jvm.Cond.selects "java/util/NoSuchElementException" ({ cls := "java/lang/Throwable", name := "fillInStackTrace", desc := "()Ljava/lang/Throwable;" } : Jvm.MethodName) ({ cls := "java/lang/Throwable", name := "fillInStackTrace", desc := "()Ljava/lang/Throwable;" } : Jvm.MethodName)) ∈ gw := gw_2 49 rfl rfl
theorem w2_50 : (Jvm.Cond.codeSync ({ cls := "java/lang/Throwable", name := "fillInStackTrace", desc := "()Ljava/lang/Throwable;" } : Jvm.MethodName) prog_13_method_18_code (1 : Nat) (Option.some (Jvm.ClassFile.FieldType.object "java/lang/Throwable"))) ∈ gw := gw_2 50 rfl rfl
theorem w2_51 : (Jvm.Cond.methodLink "java/lang/Throwable" (202 : Nat) ({ cls := "java/lang/Throwable", name := "fillInStackTrace", desc := "(I)Ljava/lang/Throwable;" } : Jvm.MethodName)) ∈ gw := gw_2 51 rfl rfl
theorem w2_53 : (Jvm.Cond.instanceMethod ({ cls := "java/lang/Throwable", name := "fillInStackTrace", desc := "(I)Ljava/lang/Throwable;" } : Jvm.MethodName)) ∈ gw := gw_2 53 rfl rfl
theorem w2_54 : (Jvm.Cond.instantiable "java/lang/Throwable" (6 : Nat)) ∈ gw := gw_2 54 rfl rfl
theorem w2_55 : (Jvm.Cond.native ({ cls := "java/lang/Throwable", name := "fillInStackTrace", desc := "(I)Ljava/lang/Throwable;" } : Jvm.MethodName)) ∈ gw := gw_2 55 rfl rfl
theorem w2_57 : (Jvm.Cond.methodLink "GuidePlans" (48 : Nat) ({ cls := "java/lang/IllegalArgumentException", name := "<init>", desc := "(Ljava/lang/String;)V" } : Jvm.MethodName)) ∈ gw := gw_2 57 rfl rfl
theorem w2_58 : (Jvm.Cond.instanceMethod ({ cls := "java/lang/IllegalArgumentException", name := "<init>", desc := "(Ljava/lang/String;)V" } : Jvm.MethodName)) ∈ gw := gw_2 58 rfl rfl
theorem w2_59 : (Jvm.Cond.code ({ cls := "java/lang/IllegalArgumentException", name := "<init>", desc := "(Ljava/lang/String;)V" } : Jvm.MethodName) prog_7_method_2_code (2 : Nat) (Option.none : Option Jvm.ClassFile.FieldType)) ∈ gw := gw_2 59 rfl rfl
theorem w2_60 : (Jvm.Cond.methodLink "java/lang/IllegalArgumentException" (7 : Nat) ({ cls := "java/lang/RuntimeException", name := "<init>", desc := "(Ljava/lang/String;)V" } : Jvm.MethodName)) ∈ gw := gw_2 60 rfl rfl
theorem w2_61 : (Jvm.Cond.instanceMethod ({ cls := "java/lang/RuntimeException", name := "<init>", desc := "(Ljava/lang/String;)V" } : Jvm.MethodName)) ∈ gw := gw_2 61 rfl rfl
theorem w2_62 : (Jvm.Cond.code ({ cls := "java/lang/RuntimeException", name := "<init>", desc := "(Ljava/lang/String;)V" } : Jvm.MethodName) prog_11_method_2_code (2 : Nat) (Option.none : Option Jvm.ClassFile.FieldType)) ∈ gw := gw_2 62 rfl rfl
theorem w2_63 : (Jvm.Cond.methodLink "java/lang/RuntimeException" (7 : Nat) ({ cls := "java/lang/Exception", name := "<init>", desc := "(Ljava/lang/String;)V" } : Jvm.MethodName)) ∈ gw := gw_2 63 rfl rfl
theorem w2_64 : (Jvm.Cond.instanceMethod ({ cls := "java/lang/Exception", name := "<init>", desc := "(Ljava/lang/String;)V" } : Jvm.MethodName)) ∈ gw := gw_2 64 rfl rfl
theorem w2_65 : (Jvm.Cond.code ({ cls := "java/lang/Exception", name := "<init>", desc := "(Ljava/lang/String;)V" } : Jvm.MethodName) prog_6_method_2_code (2 : Nat) (Option.none : Option Jvm.ClassFile.FieldType)) ∈ gw := gw_2 65 rfl rfl
theorem w2_66 : (Jvm.Cond.methodLink "java/lang/Exception" (7 : Nat) ({ cls := "java/lang/Throwable", name := "<init>", desc := "(Ljava/lang/String;)V" } : Jvm.MethodName)) ∈ gw := gw_2 66 rfl rfl
theorem w2_67 : (Jvm.Cond.instanceMethod ({ cls := "java/lang/Throwable", name := "<init>", desc := "(Ljava/lang/String;)V" } : Jvm.MethodName)) ∈ gw := gw_2 67 rfl rfl
theorem w2_68 : (Jvm.Cond.code ({ cls := "java/lang/Throwable", name := "<init>", desc := "(Ljava/lang/String;)V" } : Jvm.MethodName) prog_13_method_2_code (2 : Nat) (Option.none : Option Jvm.ClassFile.FieldType)) ∈ gw := gw_2 68 rfl rfl
theorem w2_69 : (Jvm.Cond.fieldLink "java/lang/Throwable" (198 : Nat) "java/lang/Throwable" "backtrace" "Ljava/lang/Object;") ∈ gw := gw_2 69 rfl rfl
theorem w2_70 : (Jvm.Cond.fieldLink "java/lang/Throwable" (31 : Nat) "java/lang/Throwable" "detailMessage" "Ljava/lang/String;") ∈ gw := gw_2 70 rfl rfl
theorem w2_71 : (Jvm.Cond.fieldLink "java/lang/Throwable" (7 : Nat) "java/lang/Throwable" "cause" "Ljava/lang/Throwable;") ∈ gw := gw_2 71 rfl rfl
theorem w2_72 : (Jvm.Cond.fieldLink "java/lang/Throwable" (17 : Nat) "java/lang/Throwable" "stackTrace" "[Ljava/lang/StackTraceElement;") ∈ gw := gw_2 72 rfl rfl
theorem w2_73 : (Jvm.Cond.fieldLink "java/lang/Throwable" (24 : Nat) "java/lang/Throwable" "suppressedExceptions" "Ljava/util/List;") ∈ gw := gw_2 73 rfl rfl
theorem w2_74 : (Jvm.Cond.soleField "java/lang/Throwable" "backtrace") ∈ gw := gw_2 74 rfl rfl
theorem w2_75 : (Jvm.Cond.soleField "java/lang/Throwable" "detailMessage") ∈ gw := gw_2 75 rfl rfl
theorem w2_76 : (Jvm.Cond.soleField "java/lang/Throwable" "cause") ∈ gw := gw_2 76 rfl rfl
theorem w2_77 : (Jvm.Cond.soleField "java/lang/Throwable" "stackTrace") ∈ gw := gw_2 77 rfl rfl
theorem w2_78 : (Jvm.Cond.lays "java/lang/IllegalArgumentException" "java/lang/Throwable" "depth" "I") ∈ gw := gw_2 78 rfl rfl
theorem w2_79 : (Jvm.Cond.soleField "java/lang/Throwable" "depth") ∈ gw := gw_2 79 rfl rfl
theorem w2_80 : (Jvm.Cond.soleField "java/lang/Throwable" "suppressedExceptions") ∈ gw := gw_2 80 rfl rfl
theorem w2_81 : (Jvm.Cond.superclass "java/lang/IllegalArgumentException" "java/lang/RuntimeException") ∈ gw := gw_2 81 rfl rfl
theorem w2_82 : (Jvm.Cond.arrayClass Jvm.ClassFile.FieldType.byte) ∈ gw := gw_2 82 rfl rfl
theorem w2_83 : (Jvm.Cond.classLink "GuidePlans" (54 : Nat) "java/lang/IllegalStateException") ∈ gw := gw_2 83 rfl rfl
theorem w2_84 : (Jvm.Cond.instantiable "java/lang/IllegalStateException" (6 : Nat)) ∈ gw := gw_2 84 rfl rfl
theorem w2_86 : (Jvm.Cond.selects "java/lang/IllegalStateException" ({ cls := "java/lang/Throwable", name := "fillInStackTrace", desc := "(I)Ljava/lang/Throwable;" } : Jvm.MethodName) ({ cls := "java/lang/Throwable", name := "fillInStackTrace", desc := "(I)Ljava/lang/Throwable;" } : Jvm.MethodName)) ∈ gw := gw_2 86 rfl rfl
theorem w2_87 : (Jvm.Cond.lays "java/lang/IllegalStateException" "java/lang/Throwable" "cause" "Ljava/lang/Throwable;") ∈ gw := gw_2 87 rfl rfl
theorem w2_88 : (Jvm.Cond.lays "java/lang/IllegalStateException" "java/lang/Throwable" "stackTrace" "[Ljava/lang/StackTraceElement;") ∈ gw := gw_2 88 rfl rfl
theorem w2_89 : (Jvm.Cond.lays "java/lang/IllegalStateException" "java/lang/Throwable" "suppressedExceptions" "Ljava/util/List;") ∈ gw := gw_2 89 rfl rfl
theorem w2_90 : (Jvm.Cond.lays "java/lang/IllegalStateException" "java/lang/Throwable" "detailMessage" "Ljava/lang/String;") ∈ gw := gw_2 90 rfl rfl
theorem w2_91 : (Jvm.Cond.lays "java/lang/IllegalStateException" "java/lang/Throwable" "backtrace" "Ljava/lang/Object;") ∈ gw := gw_2 91 rfl rfl
theorem w2_93 : (Jvm.Cond.methodLink "GuidePlans" (58 : Nat) ({ cls := "java/lang/IllegalStateException", name := "<init>", desc := "(Ljava/lang/String;)V" } : Jvm.MethodName)) ∈ gw := gw_2 93 rfl rfl
theorem w2_94 : (Jvm.Cond.instanceMethod ({ cls := "java/lang/IllegalStateException", name := "<init>", desc := "(Ljava/lang/String;)V" } : Jvm.MethodName)) ∈ gw := gw_2 94 rfl rfl
theorem w2_95 : (Jvm.Cond.code ({ cls := "java/lang/IllegalStateException", name := "<init>", desc := "(Ljava/lang/String;)V" } : Jvm.MethodName) prog_8_method_2_code (2 : Nat) (Option.none : Option Jvm.ClassFile.FieldType)) ∈ gw := gw_2 95 rfl rfl
theorem w2_96 : (Jvm.Cond.methodLink "java/lang/IllegalStateException" (7 : Nat) ({ cls := "java/lang/RuntimeException", name := "<init>", desc := "(Ljava/lang/String;)V" } : Jvm.MethodName)) ∈ gw := gw_2 96 rfl rfl
theorem w2_97 : (Jvm.Cond.lays "java/lang/IllegalStateException" "java/lang/Throwable" "depth" "I") ∈ gw := gw_2 97 rfl rfl
theorem w2_98 : (Jvm.Cond.superclass "java/lang/IllegalStateException" "java/lang/RuntimeException") ∈ gw := gw_2 98 rfl rfl
theorem w2_99 : (Jvm.Cond.methodLink "GuidePlans" (59 : Nat) ({ cls := "GuidePlans$Day", name := "addPerson", desc := "(I)I" } : Jvm.MethodName)) ∈ gw := gw_2 99 rfl rfl
theorem w2_100 : (Jvm.Cond.instanceMethod ({ cls := "GuidePlans$Day", name := "addPerson", desc := "(I)I" } : Jvm.MethodName)) ∈ gw := gw_2 100 rfl rfl
theorem w2_101 : (Jvm.Cond.selects "GuidePlans$Day" ({ cls := "GuidePlans$Day", name := "addPerson", desc := "(I)I" } : Jvm.MethodName) ({ cls := "GuidePlans$Day", name := "addPerson", desc := "(I)I" } : Jvm.MethodName)) ∈ gw := gw_2 101 rfl rfl
theorem w2_102 : (Jvm.Cond.code ({ cls := "GuidePlans$Day", name := "addPerson", desc := "(I)I" } : Jvm.MethodName) prog_2_method_4_code (2 : Nat) (Option.some Jvm.ClassFile.FieldType.int)) ∈ gw := gw_2 102 rfl rfl
theorem w2_103 : (Jvm.Cond.methodLink "GuidePlansLaw" (72 : Nat) ({ cls := "GuidePlansLaw", name := "off", desc := "(LGuidePlans;III[J)I" } : Jvm.MethodName)) ∈ gw := gw_2 103 rfl rfl
theorem w2_104 : (Jvm.Cond.static ({ cls := "GuidePlansLaw", name := "off", desc := "(LGuidePlans;III[J)I" } : Jvm.MethodName)) ∈ gw := gw_2 104 rfl rfl
theorem w2_105 : (Jvm.Cond.codeWith ({ cls := "GuidePlansLaw", name := "off", desc := "(LGuidePlans;III[J)I" } : Jvm.MethodName) method_4_code (6 : Nat) (Option.some Jvm.ClassFile.FieldType.int) [((0 : Nat), (12 : Nat), (15 : Nat), (21 : Nat)), ((0 : Nat), (12 : Nat), (19 : Nat), (13 : Nat)), ((0 : Nat), (12 : Nat), (23 : Nat), (15 : Nat))]) ∈ gw := gw_2 105 rfl rfl
theorem w2_106 : (Jvm.Cond.classLink "GuidePlansLaw" (21 : Nat) "java/util/NoSuchElementException") ∈ gw := gw_2 106 rfl rfl
theorem w2_107 : (Jvm.Cond.methodLink "GuidePlansLaw" (17 : Nat) ({ cls := "GuidePlans", name := "off", desc := "(III)I" } : Jvm.MethodName)) ∈ gw := gw_2 107 rfl rfl
theorem w2_108 : (Jvm.Cond.instanceMethod ({ cls := "GuidePlans", name := "off", desc := "(III)I" } : Jvm.MethodName)) ∈ gw := gw_2 108 rfl rfl
theorem w2_109 : (Jvm.Cond.selects "GuidePlans" ({ cls := "GuidePlans", name := "off", desc := "(III)I" } : Jvm.MethodName) ({ cls := "GuidePlans", name := "off", desc := "(III)I" } : Jvm.MethodName)) ∈ gw := gw_2 109 rfl rfl
theorem w2_110 : (Jvm.Cond.code ({ cls := "GuidePlans", name := "off", desc := "(III)I" } : Jvm.MethodName) prog_1_method_3_code (4 : Nat) (Option.some Jvm.ClassFile.FieldType.int)) ∈ gw := gw_2 110 rfl rfl
theorem w2_111 : (Jvm.Cond.methodLink "GuidePlans" (63 : Nat) ({ cls := "GuidePlans", name := "requirePerson", desc := "(I)V" } : Jvm.MethodName)) ∈ gw := gw_2 111 rfl rfl
theorem w2_113 : (Jvm.Cond.instanceMethod ({ cls := "GuidePlans", name := "requirePerson", desc := "(I)V" } : Jvm.MethodName)) ∈ gw := gw_2 113 rfl rfl
theorem w2_114 : (Jvm.Cond.code ({ cls := "GuidePlans", name := "requirePerson", desc := "(I)V" } : Jvm.MethodName) prog_1_method_18_code (2 : Nat) (Option.none : Option Jvm.ClassFile.FieldType)) ∈ gw := gw_2 114 rfl rfl
theorem w2_115 : (Jvm.Cond.methodLink "GuidePlans" (167 : Nat) ({ cls := "GuidePlans$Day", name := "hasPerson", desc := "(I)Z" } : Jvm.MethodName)) ∈ gw := gw_2 115 rfl rfl
theorem w2_116 : (Jvm.Cond.classLink "GuidePlans" (81 : Nat) "java/util/NoSuchElementException") ∈ gw := gw_2 116 rfl rfl
theorem w2_117 : (Jvm.Cond.instantiable "java/util/NoSuchElementException" (6 : Nat)) ∈ gw := gw_2 117 rfl rfl
theorem w2_119 : (Jvm.Cond.selects "java/util/NoSuchElementException" ({ cls := "java/lang/Throwable", name := "fillInStackTrace", desc := "(I)Ljava/lang/Throwable;" } : Jvm.MethodName) ({ cls := "java/lang/Throwable", name := "fillInStackTrace", desc := "(I)Ljava/lang/Throwable;" } : Jvm.MethodName)) ∈ gw := gw_2 119 rfl rfl
theorem w2_120 : (Jvm.Cond.lays "java/util/NoSuchElementException" "java/lang/Throwable" "cause" "Ljava/lang/Throwable;") ∈ gw := gw_2 120 rfl rfl
theorem w2_121 : (Jvm.Cond.lays "java/util/NoSuchElementException" "java/lang/Throwable" "stackTrace" "[Ljava/lang/StackTraceElement;") ∈ gw := gw_2 121 rfl rfl
theorem w2_122 : (Jvm.Cond.lays "java/util/NoSuchElementException" "java/lang/Throwable" "suppressedExceptions" "Ljava/util/List;") ∈ gw := gw_2 122 rfl rfl
theorem w2_123 : (Jvm.Cond.lays "java/util/NoSuchElementException" "java/lang/Throwable" "detailMessage" "Ljava/lang/String;") ∈ gw := gw_2 123 rfl rfl
theorem w2_124 : (Jvm.Cond.lays "java/util/NoSuchElementException" "java/lang/Throwable" "backtrace" "Ljava/lang/Object;") ∈ gw := gw_2 124 rfl rfl
theorem w2_126 : (Jvm.Cond.methodLink "GuidePlans" (85 : Nat) ({ cls := "java/util/NoSuchElementException", name := "<init>", desc := "(Ljava/lang/String;)V" } : Jvm.MethodName)) ∈ gw := gw_2 126 rfl rfl
theorem w2_127 : (Jvm.Cond.instanceMethod ({ cls := "java/util/NoSuchElementException", name := "<init>", desc := "(Ljava/lang/String;)V" } : Jvm.MethodName)) ∈ gw := gw_2 127 rfl rfl
theorem w2_128 : (Jvm.Cond.code ({ cls := "java/util/NoSuchElementException", name := "<init>", desc := "(Ljava/lang/String;)V" } : Jvm.MethodName) prog_14_method_4_code (2 : Nat) (Option.none : Option Jvm.ClassFile.FieldType)) ∈ gw := gw_2 128 rfl rfl
theorem w2_129 : (Jvm.Cond.methodLink "java/util/NoSuchElementException" (13 : Nat) ({ cls := "java/lang/RuntimeException", name := "<init>", desc := "(Ljava/lang/String;)V" } : Jvm.MethodName)) ∈ gw := gw_2 129 rfl rfl
theorem w2_130 : (Jvm.Cond.lays "java/util/NoSuchElementException" "java/lang/Throwable" "depth" "I") ∈ gw := gw_2 130 rfl rfl
theorem w2_131 : (Jvm.Cond.superclass "java/util/NoSuchElementException" "java/lang/RuntimeException") ∈ gw := gw_2 131 rfl rfl
theorem w2_132 : (Jvm.Cond.methodLink "GuidePlans" (67 : Nat) ({ cls := "GuidePlans", name := "requireSpan", desc := "(II)V" } : Jvm.MethodName)) ∈ gw := gw_2 132 rfl rfl
theorem w2_134 : (Jvm.Cond.instanceMethod ({ cls := "GuidePlans", name := "requireSpan", desc := "(II)V" } : Jvm.MethodName)) ∈ gw := gw_2 134 rfl rfl
theorem w2_135 : (Jvm.Cond.code ({ cls := "GuidePlans", name := "requireSpan", desc := "(II)V" } : Jvm.MethodName) prog_1_method_20_code (3 : Nat) (Option.none : Option Jvm.ClassFile.FieldType)) ∈ gw := gw_2 135 rfl rfl
theorem w2_137 : (Jvm.Cond.methodLink "GuidePlans" (71 : Nat) ({ cls := "GuidePlans", name := "requireRoomForSpan", desc := "()V" } : Jvm.MethodName)) ∈ gw := gw_2 137 rfl rfl
theorem w2_139 : (Jvm.Cond.instanceMethod ({ cls := "GuidePlans", name := "requireRoomForSpan", desc := "()V" } : Jvm.MethodName)) ∈ gw := gw_2 139 rfl rfl
theorem w2_140 : (Jvm.Cond.code ({ cls := "GuidePlans", name := "requireRoomForSpan", desc := "()V" } : Jvm.MethodName) prog_1_method_23_code (1 : Nat) (Option.none : Option Jvm.ClassFile.FieldType)) ∈ gw := gw_2 140 rfl rfl
theorem w2_142 : (Jvm.Cond.methodLink "GuidePlans" (74 : Nat) ({ cls := "GuidePlans$Day", name := "addSpan", desc := "(III)V" } : Jvm.MethodName)) ∈ gw := gw_2 142 rfl rfl
theorem w2_143 : (Jvm.Cond.instanceMethod ({ cls := "GuidePlans$Day", name := "addSpan", desc := "(III)V" } : Jvm.MethodName)) ∈ gw := gw_2 143 rfl rfl
theorem w2_144 : (Jvm.Cond.selects "GuidePlans$Day" ({ cls := "GuidePlans$Day", name := "addSpan", desc := "(III)V" } : Jvm.MethodName) ({ cls := "GuidePlans$Day", name := "addSpan", desc := "(III)V" } : Jvm.MethodName)) ∈ gw := gw_2 144 rfl rfl
theorem w2_145 : (Jvm.Cond.code ({ cls := "GuidePlans$Day", name := "addSpan", desc := "(III)V" } : Jvm.MethodName) prog_2_method_5_code (4 : Nat) (Option.none : Option Jvm.ClassFile.FieldType)) ∈ gw := gw_2 145 rfl rfl
theorem w2_146 : (Jvm.Cond.methodLink "GuidePlansLaw" (76 : Nat) ({ cls := "GuidePlansLaw", name := "task", desc := "(LGuidePlans;IIIZ[J)I" } : Jvm.MethodName)) ∈ gw := gw_2 146 rfl rfl
theorem w2_147 : (Jvm.Cond.static ({ cls := "GuidePlansLaw", name := "task", desc := "(LGuidePlans;IIIZ[J)I" } : Jvm.MethodName)) ∈ gw := gw_2 147 rfl rfl
theorem w2_148 : (Jvm.Cond.codeWith ({ cls := "GuidePlansLaw", name := "task", desc := "(LGuidePlans;IIIZ[J)I" } : Jvm.MethodName) method_5_code (7 : Nat) (Option.some Jvm.ClassFile.FieldType.int) [((0 : Nat), (14 : Nat), (17 : Nat), (21 : Nat)), ((0 : Nat), (14 : Nat), (21 : Nat), (13 : Nat)), ((0 : Nat), (14 : Nat), (25 : Nat), (15 : Nat))]) ∈ gw := gw_2 148 rfl rfl
theorem w2_149 : (Jvm.Cond.methodLink "GuidePlansLaw" (23 : Nat) ({ cls := "GuidePlans", name := "task", desc := "(IIIZ)I" } : Jvm.MethodName)) ∈ gw := gw_2 149 rfl rfl
theorem w2_150 : (Jvm.Cond.instanceMethod ({ cls := "GuidePlans", name := "task", desc := "(IIIZ)I" } : Jvm.MethodName)) ∈ gw := gw_2 150 rfl rfl
theorem w2_151 : (Jvm.Cond.selects "GuidePlans" ({ cls := "GuidePlans", name := "task", desc := "(IIIZ)I" } : Jvm.MethodName) ({ cls := "GuidePlans", name := "task", desc := "(IIIZ)I" } : Jvm.MethodName)) ∈ gw := gw_2 151 rfl rfl
theorem w2_152 : (Jvm.Cond.code ({ cls := "GuidePlans", name := "task", desc := "(IIIZ)I" } : Jvm.MethodName) prog_1_method_4_code (5 : Nat) (Option.some Jvm.ClassFile.FieldType.int)) ∈ gw := gw_2 152 rfl rfl
theorem w2_155 : (Jvm.Cond.methodLink "GuidePlans" (91 : Nat) ({ cls := "GuidePlans$Day", name := "addTask", desc := "(IIIZ)I" } : Jvm.MethodName)) ∈ gw := gw_2 155 rfl rfl
theorem w2_156 : (Jvm.Cond.instanceMethod ({ cls := "GuidePlans$Day", name := "addTask", desc := "(IIIZ)I" } : Jvm.MethodName)) ∈ gw := gw_2 156 rfl rfl
theorem w2_157 : (Jvm.Cond.selects "GuidePlans$Day" ({ cls := "GuidePlans$Day", name := "addTask", desc := "(IIIZ)I" } : Jvm.MethodName) ({ cls := "GuidePlans$Day", name := "addTask", desc := "(IIIZ)I" } : Jvm.MethodName)) ∈ gw := gw_2 157 rfl rfl
theorem w2_158 : (Jvm.Cond.code ({ cls := "GuidePlans$Day", name := "addTask", desc := "(IIIZ)I" } : Jvm.MethodName) prog_2_method_7_code (5 : Nat) (Option.some Jvm.ClassFile.FieldType.int)) ∈ gw := gw_2 158 rfl rfl
theorem w2_159 : (Jvm.Cond.methodLink "GuidePlansLaw" (80 : Nat) ({ cls := "GuidePlansLaw", name := "rest", desc := "(LGuidePlans;I[J)I" } : Jvm.MethodName)) ∈ gw := gw_2 159 rfl rfl
theorem w2_160 : (Jvm.Cond.static ({ cls := "GuidePlansLaw", name := "rest", desc := "(LGuidePlans;I[J)I" } : Jvm.MethodName)) ∈ gw := gw_2 160 rfl rfl
theorem w2_161 : (Jvm.Cond.codeWith ({ cls := "GuidePlansLaw", name := "rest", desc := "(LGuidePlans;I[J)I" } : Jvm.MethodName) method_6_code (4 : Nat) (Option.some Jvm.ClassFile.FieldType.int) [((0 : Nat), (9 : Nat), (12 : Nat), (13 : Nat))]) ∈ gw := gw_2 161 rfl rfl
theorem w2_162 : (Jvm.Cond.methodLink "GuidePlansLaw" (27 : Nat) ({ cls := "GuidePlans", name := "rest", desc := "(I)I" } : Jvm.MethodName)) ∈ gw := gw_2 162 rfl rfl
theorem w2_163 : (Jvm.Cond.instanceMethod ({ cls := "GuidePlans", name := "rest", desc := "(I)I" } : Jvm.MethodName)) ∈ gw := gw_2 163 rfl rfl
theorem w2_164 : (Jvm.Cond.selects "GuidePlans" ({ cls := "GuidePlans", name := "rest", desc := "(I)I" } : Jvm.MethodName) ({ cls := "GuidePlans", name := "rest", desc := "(I)I" } : Jvm.MethodName)) ∈ gw := gw_2 164 rfl rfl
theorem w2_165 : (Jvm.Cond.code ({ cls := "GuidePlans", name := "rest", desc := "(I)I" } : Jvm.MethodName) prog_1_method_5_code (3 : Nat) (Option.some Jvm.ClassFile.FieldType.int)) ∈ gw := gw_2 165 rfl rfl
theorem w2_166 : (Jvm.Cond.methodLink "GuidePlans" (95 : Nat) ({ cls := "GuidePlans", name := "requireQuarters", desc := "(I)V" } : Jvm.MethodName)) ∈ gw := gw_2 166 rfl rfl
theorem w2_168 : (Jvm.Cond.instanceMethod ({ cls := "GuidePlans", name := "requireQuarters", desc := "(I)V" } : Jvm.MethodName)) ∈ gw := gw_2 168 rfl rfl
theorem w2_169 : (Jvm.Cond.code ({ cls := "GuidePlans", name := "requireQuarters", desc := "(I)V" } : Jvm.MethodName) prog_1_method_21_code (2 : Nat) (Option.none : Option Jvm.ClassFile.FieldType)) ∈ gw := gw_2 169 rfl rfl
theorem w2_171 : (Jvm.Cond.methodLink "GuidePlansLaw" (83 : Nat) ({ cls := "GuidePlansLaw", name := "limit", desc := "(LGuidePlans;I[J)I" } : Jvm.MethodName)) ∈ gw := gw_2 171 rfl rfl
theorem w2_172 : (Jvm.Cond.static ({ cls := "GuidePlansLaw", name := "limit", desc := "(LGuidePlans;I[J)I" } : Jvm.MethodName)) ∈ gw := gw_2 172 rfl rfl
theorem w2_173 : (Jvm.Cond.codeWith ({ cls := "GuidePlansLaw", name := "limit", desc := "(LGuidePlans;I[J)I" } : Jvm.MethodName) method_7_code (4 : Nat) (Option.some Jvm.ClassFile.FieldType.int) [((0 : Nat), (9 : Nat), (12 : Nat), (13 : Nat))]) ∈ gw := gw_2 173 rfl rfl
theorem w2_174 : (Jvm.Cond.methodLink "GuidePlansLaw" (30 : Nat) ({ cls := "GuidePlans", name := "limit", desc := "(I)I" } : Jvm.MethodName)) ∈ gw := gw_2 174 rfl rfl
theorem w2_175 : (Jvm.Cond.instanceMethod ({ cls := "GuidePlans", name := "limit", desc := "(I)I" } : Jvm.MethodName)) ∈ gw := gw_2 175 rfl rfl
theorem w2_176 : (Jvm.Cond.selects "GuidePlans" ({ cls := "GuidePlans", name := "limit", desc := "(I)I" } : Jvm.MethodName) ({ cls := "GuidePlans", name := "limit", desc := "(I)I" } : Jvm.MethodName)) ∈ gw := gw_2 176 rfl rfl
theorem w2_177 : (Jvm.Cond.code ({ cls := "GuidePlans", name := "limit", desc := "(I)I" } : Jvm.MethodName) prog_1_method_6_code (3 : Nat) (Option.some Jvm.ClassFile.FieldType.int)) ∈ gw := gw_2 177 rfl rfl
theorem w2_178 : (Jvm.Cond.methodLink "GuidePlansLaw" (86 : Nat) ({ cls := "GuidePlansLaw", name := "freeze", desc := "(LGuidePlans;I[J)I" } : Jvm.MethodName)) ∈ gw := gw_2 178 rfl rfl
theorem w2_179 : (Jvm.Cond.static ({ cls := "GuidePlansLaw", name := "freeze", desc := "(LGuidePlans;I[J)I" } : Jvm.MethodName)) ∈ gw := gw_2 179 rfl rfl
theorem w2_180 : (Jvm.Cond.codeWith ({ cls := "GuidePlansLaw", name := "freeze", desc := "(LGuidePlans;I[J)I" } : Jvm.MethodName) method_8_code (4 : Nat) (Option.some Jvm.ClassFile.FieldType.int) [((0 : Nat), (9 : Nat), (12 : Nat), (13 : Nat))]) ∈ gw := gw_2 180 rfl rfl
theorem w2_181 : (Jvm.Cond.methodLink "GuidePlansLaw" (33 : Nat) ({ cls := "GuidePlans", name := "freeze", desc := "(I)I" } : Jvm.MethodName)) ∈ gw := gw_2 181 rfl rfl
theorem w2_182 : (Jvm.Cond.instanceMethod ({ cls := "GuidePlans", name := "freeze", desc := "(I)I" } : Jvm.MethodName)) ∈ gw := gw_2 182 rfl rfl
theorem w2_183 : (Jvm.Cond.selects "GuidePlans" ({ cls := "GuidePlans", name := "freeze", desc := "(I)I" } : Jvm.MethodName) ({ cls := "GuidePlans", name := "freeze", desc := "(I)I" } : Jvm.MethodName)) ∈ gw := gw_2 183 rfl rfl
theorem w2_184 : (Jvm.Cond.code ({ cls := "GuidePlans", name := "freeze", desc := "(I)I" } : Jvm.MethodName) prog_1_method_7_code (3 : Nat) (Option.some Jvm.ClassFile.FieldType.int)) ∈ gw := gw_2 184 rfl rfl
theorem w2_185 : (Jvm.Cond.methodLink "GuidePlansLaw" (97 : Nat) ({ cls := "GuidePlansLaw", name := "of", desc := "(LGuidePlans;I[J)I" } : Jvm.MethodName)) ∈ gw := gw_2 185 rfl rfl
theorem w2_186 : (Jvm.Cond.static ({ cls := "GuidePlansLaw", name := "of", desc := "(LGuidePlans;I[J)I" } : Jvm.MethodName)) ∈ gw := gw_2 186 rfl rfl
theorem w2_187 : (Jvm.Cond.codeWith ({ cls := "GuidePlansLaw", name := "of", desc := "(LGuidePlans;I[J)I" } : Jvm.MethodName) method_9_code (4 : Nat) (Option.some Jvm.ClassFile.FieldType.int) [((0 : Nat), (9 : Nat), (12 : Nat), (21 : Nat))]) ∈ gw := gw_2 187 rfl rfl
theorem w2_188 : (Jvm.Cond.methodLink "GuidePlansLaw" (36 : Nat) ({ cls := "GuidePlans", name := "of", desc := "(I)I" } : Jvm.MethodName)) ∈ gw := gw_2 188 rfl rfl
theorem w2_189 : (Jvm.Cond.instanceMethod ({ cls := "GuidePlans", name := "of", desc := "(I)I" } : Jvm.MethodName)) ∈ gw := gw_2 189 rfl rfl
theorem w2_190 : (Jvm.Cond.selects "GuidePlans" ({ cls := "GuidePlans", name := "of", desc := "(I)I" } : Jvm.MethodName) ({ cls := "GuidePlans", name := "of", desc := "(I)I" } : Jvm.MethodName)) ∈ gw := gw_2 190 rfl rfl
theorem w2_191 : (Jvm.Cond.code ({ cls := "GuidePlans", name := "of", desc := "(I)I" } : Jvm.MethodName) prog_1_method_10_code (2 : Nat) (Option.some Jvm.ClassFile.FieldType.int)) ∈ gw := gw_2 191 rfl rfl
theorem w2_192 : (Jvm.Cond.methodLink "GuidePlans" (119 : Nat) ({ cls := "GuidePlans", name := "requireTask", desc := "(I)V" } : Jvm.MethodName)) ∈ gw := gw_2 192 rfl rfl
theorem w2_194 : (Jvm.Cond.instanceMethod ({ cls := "GuidePlans", name := "requireTask", desc := "(I)V" } : Jvm.MethodName)) ∈ gw := gw_2 194 rfl rfl
theorem w2_195 : (Jvm.Cond.code ({ cls := "GuidePlans", name := "requireTask", desc := "(I)V" } : Jvm.MethodName) prog_1_method_19_code (2 : Nat) (Option.none : Option Jvm.ClassFile.FieldType)) ∈ gw := gw_2 195 rfl rfl
theorem w2_196 : (Jvm.Cond.methodLink "GuidePlans" (173 : Nat) ({ cls := "GuidePlans$Day", name := "hasTask", desc := "(I)Z" } : Jvm.MethodName)) ∈ gw := gw_2 196 rfl rfl
theorem w2_198 : (Jvm.Cond.methodLink "GuidePlansLaw" (100 : Nat) ({ cls := "GuidePlansLaw", name := "cost", desc := "(LGuidePlans;[J)I" } : Jvm.MethodName)) ∈ gw := gw_2 198 rfl rfl
theorem w2_199 : (Jvm.Cond.static ({ cls := "GuidePlansLaw", name := "cost", desc := "(LGuidePlans;[J)I" } : Jvm.MethodName)) ∈ gw := gw_2 199 rfl rfl
theorem w2_200 : (Jvm.Cond.codeWith ({ cls := "GuidePlansLaw", name := "cost", desc := "(LGuidePlans;[J)I" } : Jvm.MethodName) method_10_code (3 : Nat) (Option.some Jvm.ClassFile.FieldType.int) [((0 : Nat), (8 : Nat), (11 : Nat), (15 : Nat))]) ∈ gw := gw_2 200 rfl rfl
theorem w2_201 : (Jvm.Cond.methodLink "GuidePlansLaw" (39 : Nat) ({ cls := "GuidePlans", name := "cost", desc := "()I" } : Jvm.MethodName)) ∈ gw := gw_2 201 rfl rfl
theorem w2_202 : (Jvm.Cond.instanceMethod ({ cls := "GuidePlans", name := "cost", desc := "()I" } : Jvm.MethodName)) ∈ gw := gw_2 202 rfl rfl
theorem w2_203 : (Jvm.Cond.selects "GuidePlans" ({ cls := "GuidePlans", name := "cost", desc := "()I" } : Jvm.MethodName) ({ cls := "GuidePlans", name := "cost", desc := "()I" } : Jvm.MethodName)) ∈ gw := gw_2 203 rfl rfl
theorem w2_204 : (Jvm.Cond.code ({ cls := "GuidePlans", name := "cost", desc := "()I" } : Jvm.MethodName) prog_1_method_11_code (1 : Nat) (Option.some Jvm.ClassFile.FieldType.int)) ∈ gw := gw_2 204 rfl rfl
theorem w2_205 : (Jvm.Cond.methodLink "GuidePlans" (122 : Nat) ({ cls := "GuidePlans", name := "requirePlan", desc := "()V" } : Jvm.MethodName)) ∈ gw := gw_2 205 rfl rfl
theorem w2_207 : (Jvm.Cond.instanceMethod ({ cls := "GuidePlans", name := "requirePlan", desc := "()V" } : Jvm.MethodName)) ∈ gw := gw_2 207 rfl rfl
theorem w2_208 : (Jvm.Cond.code ({ cls := "GuidePlans", name := "requirePlan", desc := "()V" } : Jvm.MethodName) prog_1_method_22_code (1 : Nat) (Option.none : Option Jvm.ClassFile.FieldType)) ∈ gw := gw_2 208 rfl rfl
theorem w2_210 : (Jvm.Cond.methodLink "GuidePlansLaw" (104 : Nat) ({ cls := "GuidePlansLaw", name := "absent", desc := "(LGuidePlans;II[J)I" } : Jvm.MethodName)) ∈ gw := gw_2 210 rfl rfl
theorem w2_211 : (Jvm.Cond.static ({ cls := "GuidePlansLaw", name := "absent", desc := "(LGuidePlans;II[J)I" } : Jvm.MethodName)) ∈ gw := gw_2 211 rfl rfl
theorem w2_212 : (Jvm.Cond.codeWith ({ cls := "GuidePlansLaw", name := "absent", desc := "(LGuidePlans;II[J)I" } : Jvm.MethodName) method_11_code (5 : Nat) (Option.some Jvm.ClassFile.FieldType.int) [((0 : Nat), (10 : Nat), (13 : Nat), (21 : Nat)), ((0 : Nat), (10 : Nat), (17 : Nat), (13 : Nat)), ((0 : Nat), (10 : Nat), (21 : Nat), (15 : Nat))]) ∈ gw := gw_2 212 rfl rfl
theorem w2_213 : (Jvm.Cond.methodLink "GuidePlansLaw" (43 : Nat) ({ cls := "GuidePlans", name := "absent", desc := "(II)I" } : Jvm.MethodName)) ∈ gw := gw_2 213 rfl rfl
theorem w2_214 : (Jvm.Cond.instanceMethod ({ cls := "GuidePlans", name := "absent", desc := "(II)I" } : Jvm.MethodName)) ∈ gw := gw_2 214 rfl rfl
theorem w2_215 : (Jvm.Cond.selects "GuidePlans" ({ cls := "GuidePlans", name := "absent", desc := "(II)I" } : Jvm.MethodName) ({ cls := "GuidePlans", name := "absent", desc := "(II)I" } : Jvm.MethodName)) ∈ gw := gw_2 215 rfl rfl
theorem w2_216 : (Jvm.Cond.code ({ cls := "GuidePlans", name := "absent", desc := "(II)I" } : Jvm.MethodName) prog_1_method_12_code (3 : Nat) (Option.some Jvm.ClassFile.FieldType.int)) ∈ gw := gw_2 216 rfl rfl
theorem w2_217 : (Jvm.Cond.methodLink "GuidePlans" (125 : Nat) ({ cls := "GuidePlans$Search", name := "findNearest", desc := "(LGuidePlans$Day;[II)Z" } : Jvm.MethodName)) ∈ gw := gw_2 217 rfl rfl
theorem w2_218 : (Jvm.Cond.instanceMethod ({ cls := "GuidePlans$Search", name := "findNearest", desc := "(LGuidePlans$Day;[II)Z" } : Jvm.MethodName)) ∈ gw := gw_2 218 rfl rfl
theorem w2_219 : (Jvm.Cond.selects "GuidePlans$Search" ({ cls := "GuidePlans$Search", name := "findNearest", desc := "(LGuidePlans$Day;[II)Z" } : Jvm.MethodName) ({ cls := "GuidePlans$Search", name := "findNearest", desc := "(LGuidePlans$Day;[II)Z" } : Jvm.MethodName)) ∈ gw := gw_2 219 rfl rfl
theorem w2_220 : (Jvm.Cond.code ({ cls := "GuidePlans$Search", name := "findNearest", desc := "(LGuidePlans$Day;[II)Z" } : Jvm.MethodName) prog_3_method_3_code (4 : Nat) (Option.some Jvm.ClassFile.FieldType.boolean)) ∈ gw := gw_2 220 rfl rfl
theorem w2_221 : (Jvm.Cond.methodLink "GuidePlans" (129 : Nat) ({ cls := "GuidePlans$Day", name := "dropLatestSpan", desc := "()V" } : Jvm.MethodName)) ∈ gw := gw_2 221 rfl rfl
theorem w2_222 : (Jvm.Cond.instanceMethod ({ cls := "GuidePlans$Day", name := "dropLatestSpan", desc := "()V" } : Jvm.MethodName)) ∈ gw := gw_2 222 rfl rfl
theorem w2_223 : (Jvm.Cond.selects "GuidePlans$Day" ({ cls := "GuidePlans$Day", name := "dropLatestSpan", desc := "()V" } : Jvm.MethodName) ({ cls := "GuidePlans$Day", name := "dropLatestSpan", desc := "()V" } : Jvm.MethodName)) ∈ gw := gw_2 223 rfl rfl
theorem w2_224 : (Jvm.Cond.code ({ cls := "GuidePlans$Day", name := "dropLatestSpan", desc := "()V" } : Jvm.MethodName) prog_2_method_6_code (1 : Nat) (Option.none : Option Jvm.ClassFile.FieldType)) ∈ gw := gw_2 224 rfl rfl
theorem w2_225 : (Jvm.Cond.methodLink "GuidePlans" (132 : Nat) ({ cls := "GuidePlans", name := "noteChanges", desc := "()V" } : Jvm.MethodName)) ∈ gw := gw_2 225 rfl rfl
theorem w2_227 : (Jvm.Cond.instanceMethod ({ cls := "GuidePlans", name := "noteChanges", desc := "()V" } : Jvm.MethodName)) ∈ gw := gw_2 227 rfl rfl
theorem w2_228 : (Jvm.Cond.code ({ cls := "GuidePlans", name := "noteChanges", desc := "()V" } : Jvm.MethodName) prog_1_method_25_code (2 : Nat) (Option.none : Option Jvm.ClassFile.FieldType)) ∈ gw := gw_2 228 rfl rfl
theorem w2_229 : (Jvm.Cond.methodLink "GuidePlansLaw" (108 : Nat) ({ cls := "GuidePlansLaw", name := "changed", desc := "(LGuidePlans;I[J)I" } : Jvm.MethodName)) ∈ gw := gw_2 229 rfl rfl
theorem w2_230 : (Jvm.Cond.static ({ cls := "GuidePlansLaw", name := "changed", desc := "(LGuidePlans;I[J)I" } : Jvm.MethodName)) ∈ gw := gw_2 230 rfl rfl
theorem w2_231 : (Jvm.Cond.codeWith ({ cls := "GuidePlansLaw", name := "changed", desc := "(LGuidePlans;I[J)I" } : Jvm.MethodName) method_12_code (4 : Nat) (Option.some Jvm.ClassFile.FieldType.int) [((0 : Nat), (9 : Nat), (12 : Nat), (21 : Nat))]) ∈ gw := gw_2 231 rfl rfl
theorem w2_232 : (Jvm.Cond.methodLink "GuidePlansLaw" (47 : Nat) ({ cls := "GuidePlans", name := "changed", desc := "(I)I" } : Jvm.MethodName)) ∈ gw := gw_2 232 rfl rfl
theorem w2_233 : (Jvm.Cond.instanceMethod ({ cls := "GuidePlans", name := "changed", desc := "(I)I" } : Jvm.MethodName)) ∈ gw := gw_2 233 rfl rfl
theorem w2_234 : (Jvm.Cond.selects "GuidePlans" ({ cls := "GuidePlans", name := "changed", desc := "(I)I" } : Jvm.MethodName) ({ cls := "GuidePlans", name := "changed", desc := "(I)I" } : Jvm.MethodName)) ∈ gw := gw_2 234 rfl rfl
theorem w2_235 : (Jvm.Cond.code ({ cls := "GuidePlans", name := "changed", desc := "(I)I" } : Jvm.MethodName) prog_1_method_13_code (2 : Nat) (Option.some Jvm.ClassFile.FieldType.int)) ∈ gw := gw_2 235 rfl rfl
theorem w2_237 : (Jvm.Cond.methodLink "GuidePlansLaw" (111 : Nat) ({ cls := "GuidePlansLaw", name := "swap", desc := "(LGuidePlans;II[J)I" } : Jvm.MethodName)) ∈ gw := gw_2 237 rfl rfl
theorem w2_238 : (Jvm.Cond.static ({ cls := "GuidePlansLaw", name := "swap", desc := "(LGuidePlans;II[J)I" } : Jvm.MethodName)) ∈ gw := gw_2 238 rfl rfl
theorem w2_239 : (Jvm.Cond.codeWith ({ cls := "GuidePlansLaw", name := "swap", desc := "(LGuidePlans;II[J)I" } : Jvm.MethodName) method_13_code (5 : Nat) (Option.some Jvm.ClassFile.FieldType.int) [((0 : Nat), (10 : Nat), (13 : Nat), (21 : Nat)), ((0 : Nat), (10 : Nat), (17 : Nat), (15 : Nat))]) ∈ gw := gw_2 239 rfl rfl
theorem w3_0 : (Jvm.Cond.methodLink "GuidePlansLaw" (50 : Nat) ({ cls := "GuidePlans", name := "swap", desc := "(II)I" } : Jvm.MethodName)) ∈ gw := gw_3 0 rfl rfl
theorem w3_1 : (Jvm.Cond.instanceMethod ({ cls := "GuidePlans", name := "swap", desc := "(II)I" } : Jvm.MethodName)) ∈ gw := gw_3 1 rfl rfl
theorem w3_2 : (Jvm.Cond.selects "GuidePlans" ({ cls := "GuidePlans", name := "swap", desc := "(II)I" } : Jvm.MethodName) ({ cls := "GuidePlans", name := "swap", desc := "(II)I" } : Jvm.MethodName)) ∈ gw := gw_3 2 rfl rfl
theorem w3_3 : (Jvm.Cond.code ({ cls := "GuidePlans", name := "swap", desc := "(II)I" } : Jvm.MethodName) prog_1_method_14_code (6 : Nat) (Option.some Jvm.ClassFile.FieldType.int)) ∈ gw := gw_3 3 rfl rfl
theorem w3_4 : (Jvm.Cond.methodLink "GuidePlans" (140 : Nat) ({ cls := "GuidePlans", name := "empties", desc := "(II)Z" } : Jvm.MethodName)) ∈ gw := gw_3 4 rfl rfl
theorem w3_6 : (Jvm.Cond.instanceMethod ({ cls := "GuidePlans", name := "empties", desc := "(II)Z" } : Jvm.MethodName)) ∈ gw := gw_3 6 rfl rfl
theorem w3_7 : (Jvm.Cond.code ({ cls := "GuidePlans", name := "empties", desc := "(II)Z" } : Jvm.MethodName) prog_1_method_29_code (3 : Nat) (Option.some Jvm.ClassFile.FieldType.boolean)) ∈ gw := gw_3 7 rfl rfl
theorem w3_8 : (Jvm.Cond.methodLink "GuidePlans" (144 : Nat) ({ cls := "GuidePlans", name := "isUnsuited", desc := "(II)Z" } : Jvm.MethodName)) ∈ gw := gw_3 8 rfl rfl
theorem w3_10 : (Jvm.Cond.instanceMethod ({ cls := "GuidePlans", name := "isUnsuited", desc := "(II)Z" } : Jvm.MethodName)) ∈ gw := gw_3 10 rfl rfl
theorem w3_11 : (Jvm.Cond.code ({ cls := "GuidePlans", name := "isUnsuited", desc := "(II)Z" } : Jvm.MethodName) prog_1_method_30_code (3 : Nat) (Option.some Jvm.ClassFile.FieldType.boolean)) ∈ gw := gw_3 11 rfl rfl
theorem w3_12 : (Jvm.Cond.methodLink "GuidePlans" (196 : Nat) ({ cls := "GuidePlans$Day", name := "suits", desc := "(II)Z" } : Jvm.MethodName)) ∈ gw := gw_3 12 rfl rfl
theorem w3_13 : (Jvm.Cond.methodLink "GuidePlans" (147 : Nat) ({ cls := "GuidePlans", name := "faultOfSets", desc := "(II)I" } : Jvm.MethodName)) ∈ gw := gw_3 13 rfl rfl
theorem w3_15 : (Jvm.Cond.instanceMethod ({ cls := "GuidePlans", name := "faultOfSets", desc := "(II)I" } : Jvm.MethodName)) ∈ gw := gw_3 15 rfl rfl
theorem w3_16 : (Jvm.Cond.code ({ cls := "GuidePlans", name := "faultOfSets", desc := "(II)I" } : Jvm.MethodName) prog_1_method_31_code (3 : Nat) (Option.some Jvm.ClassFile.FieldType.int)) ∈ gw := gw_3 16 rfl rfl
theorem w3_17 : (Jvm.Cond.methodLink "GuidePlans" (199 : Nat) ({ cls := "GuidePlans", name := "hasTasksTooNear", desc := "(I)Z" } : Jvm.MethodName)) ∈ gw := gw_3 17 rfl rfl
theorem w3_19 : (Jvm.Cond.instanceMethod ({ cls := "GuidePlans", name := "hasTasksTooNear", desc := "(I)Z" } : Jvm.MethodName)) ∈ gw := gw_3 19 rfl rfl
theorem w3_20 : (Jvm.Cond.code ({ cls := "GuidePlans", name := "hasTasksTooNear", desc := "(I)Z" } : Jvm.MethodName) prog_1_method_32_code (4 : Nat) (Option.some Jvm.ClassFile.FieldType.boolean)) ∈ gw := gw_3 20 rfl rfl
theorem w3_21 : (Jvm.Cond.methodLink "GuidePlans" (205 : Nat) ({ cls := "GuidePlans$Day", name := "areTooNear", desc := "(II)Z" } : Jvm.MethodName)) ∈ gw := gw_3 21 rfl rfl
theorem w3_22 : (Jvm.Cond.methodLink "GuidePlans" (202 : Nat) ({ cls := "GuidePlans", name := "worksTooLong", desc := "(I)Z" } : Jvm.MethodName)) ∈ gw := gw_3 22 rfl rfl
theorem w3_24 : (Jvm.Cond.instanceMethod ({ cls := "GuidePlans", name := "worksTooLong", desc := "(I)Z" } : Jvm.MethodName)) ∈ gw := gw_3 24 rfl rfl
theorem w3_25 : (Jvm.Cond.code ({ cls := "GuidePlans", name := "worksTooLong", desc := "(I)Z" } : Jvm.MethodName) prog_1_method_33_code (2 : Nat) (Option.some Jvm.ClassFile.FieldType.boolean)) ∈ gw := gw_3 25 rfl rfl
theorem w3_26 : (Jvm.Cond.methodLink "GuidePlans" (151 : Nat) ({ cls := "GuidePlans", name := "quartersOf", desc := "(I)I" } : Jvm.MethodName)) ∈ gw := gw_3 26 rfl rfl
theorem w3_28 : (Jvm.Cond.instanceMethod ({ cls := "GuidePlans", name := "quartersOf", desc := "(I)I" } : Jvm.MethodName)) ∈ gw := gw_3 28 rfl rfl
theorem w3_29 : (Jvm.Cond.code ({ cls := "GuidePlans", name := "quartersOf", desc := "(I)I" } : Jvm.MethodName) prog_1_method_28_code (4 : Nat) (Option.some Jvm.ClassFile.FieldType.int)) ∈ gw := gw_3 29 rfl rfl
theorem w3_30 : (Jvm.Cond.methodLink "GuidePlans" (189 : Nat) ({ cls := "GuidePlans$Day", name := "lengthOf", desc := "(I)I" } : Jvm.MethodName)) ∈ gw := gw_3 30 rfl rfl
theorem w3_31 : (Jvm.Cond.methodLink "GuidePlansLaw" (114 : Nat) ({ cls := "GuidePlansLaw", name := "work", desc := "(LGuidePlans;I[J)I" } : Jvm.MethodName)) ∈ gw := gw_3 31 rfl rfl
theorem w3_32 : (Jvm.Cond.static ({ cls := "GuidePlansLaw", name := "work", desc := "(LGuidePlans;I[J)I" } : Jvm.MethodName)) ∈ gw := gw_3 32 rfl rfl
theorem w3_33 : (Jvm.Cond.codeWith ({ cls := "GuidePlansLaw", name := "work", desc := "(LGuidePlans;I[J)I" } : Jvm.MethodName) method_14_code (4 : Nat) (Option.some Jvm.ClassFile.FieldType.int) [((0 : Nat), (9 : Nat), (12 : Nat), (21 : Nat))]) ∈ gw := gw_3 33 rfl rfl
theorem w3_34 : (Jvm.Cond.methodLink "GuidePlansLaw" (53 : Nat) ({ cls := "GuidePlans", name := "work", desc := "(I)I" } : Jvm.MethodName)) ∈ gw := gw_3 34 rfl rfl
theorem w3_35 : (Jvm.Cond.instanceMethod ({ cls := "GuidePlans", name := "work", desc := "(I)I" } : Jvm.MethodName)) ∈ gw := gw_3 35 rfl rfl
theorem w3_36 : (Jvm.Cond.selects "GuidePlans" ({ cls := "GuidePlans", name := "work", desc := "(I)I" } : Jvm.MethodName) ({ cls := "GuidePlans", name := "work", desc := "(I)I" } : Jvm.MethodName)) ∈ gw := gw_3 36 rfl rfl
theorem w3_37 : (Jvm.Cond.code ({ cls := "GuidePlans", name := "work", desc := "(I)I" } : Jvm.MethodName) prog_1_method_15_code (2 : Nat) (Option.some Jvm.ClassFile.FieldType.int)) ∈ gw := gw_3 37 rfl rfl
theorem w3_38 : (Jvm.Cond.methodLink "GuidePlansLaw" (121 : Nat) ({ cls := "GuidePlansLaw", name := "count", desc := "(LGuidePlans;I[J)I" } : Jvm.MethodName)) ∈ gw := gw_3 38 rfl rfl
theorem w3_39 : (Jvm.Cond.static ({ cls := "GuidePlansLaw", name := "count", desc := "(LGuidePlans;I[J)I" } : Jvm.MethodName)) ∈ gw := gw_3 39 rfl rfl
theorem w3_40 : (Jvm.Cond.codeWith ({ cls := "GuidePlansLaw", name := "count", desc := "(LGuidePlans;I[J)I" } : Jvm.MethodName) method_15_code (4 : Nat) (Option.some Jvm.ClassFile.FieldType.int) [((0 : Nat), (9 : Nat), (12 : Nat), (21 : Nat))]) ∈ gw := gw_3 40 rfl rfl
theorem w3_41 : (Jvm.Cond.methodLink "GuidePlansLaw" (56 : Nat) ({ cls := "GuidePlans", name := "count", desc := "(I)I" } : Jvm.MethodName)) ∈ gw := gw_3 41 rfl rfl
theorem w3_42 : (Jvm.Cond.instanceMethod ({ cls := "GuidePlans", name := "count", desc := "(I)I" } : Jvm.MethodName)) ∈ gw := gw_3 42 rfl rfl
theorem w3_43 : (Jvm.Cond.selects "GuidePlans" ({ cls := "GuidePlans", name := "count", desc := "(I)I" } : Jvm.MethodName) ({ cls := "GuidePlans", name := "count", desc := "(I)I" } : Jvm.MethodName)) ∈ gw := gw_3 43 rfl rfl
theorem w3_44 : (Jvm.Cond.code ({ cls := "GuidePlans", name := "count", desc := "(I)I" } : Jvm.MethodName) prog_1_method_17_code (2 : Nat) (Option.some Jvm.ClassFile.FieldType.int)) ∈ gw := gw_3 44 rfl rfl
theorem w3_46 : (Jvm.Cond.classLink "GuidePlansLaw" (60 : Nat) "GuidePlansModel") ∈ gw := gw_3 46 rfl rfl
theorem w3_47 : (Jvm.Cond.instantiable "GuidePlansModel" (27 : Nat)) ∈ gw := gw_3 47 rfl rfl
theorem w3_48 : (Jvm.Cond.methodLink "GuidePlansLaw" (62 : Nat) ({ cls := "GuidePlansModel", name := "<init>", desc := "()V" } : Jvm.MethodName)) ∈ gw := gw_3 48 rfl rfl
theorem w3_49 : (Jvm.Cond.instanceMethod ({ cls := "GuidePlansModel", name := "<init>", desc := "()V" } : Jvm.MethodName)) ∈ gw := gw_3 49 rfl rfl
theorem w3_50 : (Jvm.Cond.code ({ cls := "GuidePlansModel", name := "<init>", desc := "()V" } : Jvm.MethodName) prog_5_method_1_code (2 : Nat) (Option.none : Option Jvm.ClassFile.FieldType)) ∈ gw := gw_3 50 rfl rfl
theorem w3_51 : (Jvm.Cond.methodLink "GuidePlansModel" (1 : Nat) ({ cls := "java/lang/Object", name := "<init>", desc := "()V" } : Jvm.MethodName)) ∈ gw := gw_3 51 rfl rfl
theorem w3_52 : (Jvm.Cond.fieldLink "GuidePlansModel" (57 : Nat) "GuidePlansModel" "thrown" "I") ∈ gw := gw_3 52 rfl rfl
theorem w3_53 : (Jvm.Cond.fieldLink "GuidePlansModel" (60 : Nat) "GuidePlansModel" "persons" "I") ∈ gw := gw_3 53 rfl rfl
theorem w3_54 : (Jvm.Cond.fieldLink "GuidePlansModel" (7 : Nat) "GuidePlansModel" "skills" "[I") ∈ gw := gw_3 54 rfl rfl
theorem w3_55 : (Jvm.Cond.fieldLink "GuidePlansModel" (74 : Nat) "GuidePlansModel" "spans" "I") ∈ gw := gw_3 55 rfl rfl
theorem w3_56 : (Jvm.Cond.fieldLink "GuidePlansModel" (13 : Nat) "GuidePlansModel" "spanOf" "[I") ∈ gw := gw_3 56 rfl rfl
theorem w3_57 : (Jvm.Cond.fieldLink "GuidePlansModel" (16 : Nat) "GuidePlansModel" "spanFroms" "[I") ∈ gw := gw_3 57 rfl rfl
theorem w3_58 : (Jvm.Cond.fieldLink "GuidePlansModel" (19 : Nat) "GuidePlansModel" "spanTos" "[I") ∈ gw := gw_3 58 rfl rfl
theorem w3_59 : (Jvm.Cond.fieldLink "GuidePlansModel" (63 : Nat) "GuidePlansModel" "tasks" "I") ∈ gw := gw_3 59 rfl rfl
theorem w3_60 : (Jvm.Cond.fieldLink "GuidePlansModel" (22 : Nat) "GuidePlansModel" "needs" "[I") ∈ gw := gw_3 60 rfl rfl
theorem w3_61 : (Jvm.Cond.fieldLink "GuidePlansModel" (25 : Nat) "GuidePlansModel" "froms" "[I") ∈ gw := gw_3 61 rfl rfl
theorem w3_62 : (Jvm.Cond.fieldLink "GuidePlansModel" (28 : Nat) "GuidePlansModel" "tos" "[I") ∈ gw := gw_3 62 rfl rfl
theorem w3_63 : (Jvm.Cond.fieldLink "GuidePlansModel" (31 : Nat) "GuidePlansModel" "always" "[Z") ∈ gw := gw_3 63 rfl rfl
theorem w3_64 : (Jvm.Cond.fieldLink "GuidePlansModel" (35 : Nat) "GuidePlansModel" "plan" "[I") ∈ gw := gw_3 64 rfl rfl
theorem w3_65 : (Jvm.Cond.fieldLink "GuidePlansModel" (38 : Nat) "GuidePlansModel" "tried" "[I") ∈ gw := gw_3 65 rfl rfl
theorem w3_66 : (Jvm.Cond.fieldLink "GuidePlansModel" (41 : Nat) "GuidePlansModel" "best" "[I") ∈ gw := gw_3 66 rfl rfl
theorem w3_67 : (Jvm.Cond.fieldLink "GuidePlansModel" (44 : Nat) "GuidePlansModel" "kept" "[Z") ∈ gw := gw_3 67 rfl rfl
theorem w3_68 : (Jvm.Cond.fieldLink "GuidePlansModel" (146 : Nat) "GuidePlansModel" "planned" "Z") ∈ gw := gw_3 68 rfl rfl
theorem w3_69 : (Jvm.Cond.fieldLink "GuidePlansModel" (89 : Nat) "GuidePlansModel" "rest" "I") ∈ gw := gw_3 69 rfl rfl
theorem w3_70 : (Jvm.Cond.fieldLink "GuidePlansModel" (47 : Nat) "GuidePlansModel" "limit" "I") ∈ gw := gw_3 70 rfl rfl
theorem w3_71 : (Jvm.Cond.fieldLink "GuidePlansModel" (92 : Nat) "GuidePlansModel" "frozen" "I") ∈ gw := gw_3 71 rfl rfl
theorem w3_72 : (Jvm.Cond.fieldLink "GuidePlansModel" (51 : Nat) "GuidePlansModel" "told" "I") ∈ gw := gw_3 72 rfl rfl
theorem w3_73 : (Jvm.Cond.fieldLink "GuidePlansModel" (155 : Nat) "GuidePlansModel" "changes" "I") ∈ gw := gw_3 73 rfl rfl
theorem w3_74 : (Jvm.Cond.fieldLink "GuidePlansModel" (54 : Nat) "GuidePlansModel" "changed" "[I") ∈ gw := gw_3 74 rfl rfl
theorem w3_75 : (Jvm.Cond.fieldLink "GuidePlansModel" (108 : Nat) "GuidePlansModel" "found" "Z") ∈ gw := gw_3 75 rfl rfl
theorem w3_76 : (Jvm.Cond.fieldLink "GuidePlansModel" (126 : Nat) "GuidePlansModel" "foundChanges" "I") ∈ gw := gw_3 76 rfl rfl
theorem w3_77 : (Jvm.Cond.fieldLink "GuidePlansModel" (132 : Nat) "GuidePlansModel" "foundCost" "I") ∈ gw := gw_3 77 rfl rfl
theorem w3_78 : (Jvm.Cond.fieldLink "GuidePlansModel" (112 : Nat) "GuidePlansModel" "filled" "I") ∈ gw := gw_3 78 rfl rfl
theorem w3_79 : (Jvm.Cond.lays "GuidePlansModel" "GuidePlansModel" "thrown" "I") ∈ gw := gw_3 79 rfl rfl
theorem w3_80 : (Jvm.Cond.soleField "GuidePlansModel" "thrown") ∈ gw := gw_3 80 rfl rfl
theorem w3_81 : (Jvm.Cond.lays "GuidePlansModel" "GuidePlansModel" "persons" "I") ∈ gw := gw_3 81 rfl rfl
theorem w3_82 : (Jvm.Cond.soleField "GuidePlansModel" "persons") ∈ gw := gw_3 82 rfl rfl
theorem w3_83 : (Jvm.Cond.laysFinal "GuidePlansModel" "GuidePlansModel" "skills" "[I") ∈ gw := gw_3 83 rfl rfl
theorem w3_84 : (Jvm.Cond.soleField "GuidePlansModel" "skills") ∈ gw := gw_3 84 rfl rfl
theorem w3_85 : (Jvm.Cond.lays "GuidePlansModel" "GuidePlansModel" "spans" "I") ∈ gw := gw_3 85 rfl rfl
theorem w3_86 : (Jvm.Cond.soleField "GuidePlansModel" "spans") ∈ gw := gw_3 86 rfl rfl
theorem w3_87 : (Jvm.Cond.laysFinal "GuidePlansModel" "GuidePlansModel" "spanOf" "[I") ∈ gw := gw_3 87 rfl rfl
theorem w3_88 : (Jvm.Cond.soleField "GuidePlansModel" "spanOf") ∈ gw := gw_3 88 rfl rfl
theorem w3_89 : (Jvm.Cond.laysFinal "GuidePlansModel" "GuidePlansModel" "spanFroms" "[I") ∈ gw := gw_3 89 rfl rfl
theorem w3_90 : (Jvm.Cond.soleField "GuidePlansModel" "spanFroms") ∈ gw := gw_3 90 rfl rfl
theorem w3_91 : (Jvm.Cond.laysFinal "GuidePlansModel" "GuidePlansModel" "spanTos" "[I") ∈ gw := gw_3 91 rfl rfl
theorem w3_92 : (Jvm.Cond.soleField "GuidePlansModel" "spanTos") ∈ gw := gw_3 92 rfl rfl
theorem w3_93 : (Jvm.Cond.lays "GuidePlansModel" "GuidePlansModel" "tasks" "I") ∈ gw := gw_3 93 rfl rfl
theorem w3_94 : (Jvm.Cond.soleField "GuidePlansModel" "tasks") ∈ gw := gw_3 94 rfl rfl
theorem w3_95 : (Jvm.Cond.laysFinal "GuidePlansModel" "GuidePlansModel" "needs" "[I") ∈ gw := gw_3 95 rfl rfl
theorem w3_96 : (Jvm.Cond.soleField "GuidePlansModel" "needs") ∈ gw := gw_3 96 rfl rfl
theorem w3_97 : (Jvm.Cond.laysFinal "GuidePlansModel" "GuidePlansModel" "froms" "[I") ∈ gw := gw_3 97 rfl rfl
theorem w3_98 : (Jvm.Cond.soleField "GuidePlansModel" "froms") ∈ gw := gw_3 98 rfl rfl
theorem w3_99 : (Jvm.Cond.laysFinal "GuidePlansModel" "GuidePlansModel" "tos" "[I") ∈ gw := gw_3 99 rfl rfl
theorem w3_100 : (Jvm.Cond.soleField "GuidePlansModel" "tos") ∈ gw := gw_3 100 rfl rfl
theorem w3_101 : (Jvm.Cond.laysFinal "GuidePlansModel" "GuidePlansModel" "always" "[Z") ∈ gw := gw_3 101 rfl rfl
theorem w3_102 : (Jvm.Cond.soleField "GuidePlansModel" "always") ∈ gw := gw_3 102 rfl rfl
theorem w3_103 : (Jvm.Cond.laysFinal "GuidePlansModel" "GuidePlansModel" "plan" "[I") ∈ gw := gw_3 103 rfl rfl
theorem w3_104 : (Jvm.Cond.soleField "GuidePlansModel" "plan") ∈ gw := gw_3 104 rfl rfl
theorem w3_105 : (Jvm.Cond.laysFinal "GuidePlansModel" "GuidePlansModel" "tried" "[I") ∈ gw := gw_3 105 rfl rfl
theorem w3_106 : (Jvm.Cond.soleField "GuidePlansModel" "tried") ∈ gw := gw_3 106 rfl rfl
theorem w3_107 : (Jvm.Cond.laysFinal "GuidePlansModel" "GuidePlansModel" "best" "[I") ∈ gw := gw_3 107 rfl rfl
theorem w3_108 : (Jvm.Cond.soleField "GuidePlansModel" "best") ∈ gw := gw_3 108 rfl rfl
theorem w3_109 : (Jvm.Cond.laysFinal "GuidePlansModel" "GuidePlansModel" "kept" "[Z") ∈ gw := gw_3 109 rfl rfl
theorem w3_110 : (Jvm.Cond.soleField "GuidePlansModel" "kept") ∈ gw := gw_3 110 rfl rfl
theorem w3_111 : (Jvm.Cond.lays "GuidePlansModel" "GuidePlansModel" "planned" "Z") ∈ gw := gw_3 111 rfl rfl
theorem w3_112 : (Jvm.Cond.soleField "GuidePlansModel" "planned") ∈ gw := gw_3 112 rfl rfl
theorem w3_113 : (Jvm.Cond.lays "GuidePlansModel" "GuidePlansModel" "rest" "I") ∈ gw := gw_3 113 rfl rfl
theorem w3_114 : (Jvm.Cond.soleField "GuidePlansModel" "rest") ∈ gw := gw_3 114 rfl rfl
theorem w3_115 : (Jvm.Cond.lays "GuidePlansModel" "GuidePlansModel" "limit" "I") ∈ gw := gw_3 115 rfl rfl
theorem w3_116 : (Jvm.Cond.soleField "GuidePlansModel" "limit") ∈ gw := gw_3 116 rfl rfl
theorem w3_117 : (Jvm.Cond.lays "GuidePlansModel" "GuidePlansModel" "frozen" "I") ∈ gw := gw_3 117 rfl rfl
theorem w3_118 : (Jvm.Cond.soleField "GuidePlansModel" "frozen") ∈ gw := gw_3 118 rfl rfl
theorem w3_119 : (Jvm.Cond.lays "GuidePlansModel" "GuidePlansModel" "told" "I") ∈ gw := gw_3 119 rfl rfl
theorem w3_120 : (Jvm.Cond.soleField "GuidePlansModel" "told") ∈ gw := gw_3 120 rfl rfl
theorem w3_121 : (Jvm.Cond.lays "GuidePlansModel" "GuidePlansModel" "changes" "I") ∈ gw := gw_3 121 rfl rfl
theorem w3_122 : (Jvm.Cond.soleField "GuidePlansModel" "changes") ∈ gw := gw_3 122 rfl rfl
theorem w3_123 : (Jvm.Cond.laysFinal "GuidePlansModel" "GuidePlansModel" "changed" "[I") ∈ gw := gw_3 123 rfl rfl
theorem w3_124 : (Jvm.Cond.soleField "GuidePlansModel" "changed") ∈ gw := gw_3 124 rfl rfl
theorem w3_125 : (Jvm.Cond.lays "GuidePlansModel" "GuidePlansModel" "found" "Z") ∈ gw := gw_3 125 rfl rfl
theorem w3_126 : (Jvm.Cond.soleField "GuidePlansModel" "found") ∈ gw := gw_3 126 rfl rfl
theorem w3_127 : (Jvm.Cond.lays "GuidePlansModel" "GuidePlansModel" "foundChanges" "I") ∈ gw := gw_3 127 rfl rfl
theorem w3_128 : (Jvm.Cond.soleField "GuidePlansModel" "foundChanges") ∈ gw := gw_3 128 rfl rfl
theorem w3_129 : (Jvm.Cond.lays "GuidePlansModel" "GuidePlansModel" "foundCost" "I") ∈ gw := gw_3 129 rfl rfl
theorem w3_130 : (Jvm.Cond.soleField "GuidePlansModel" "foundCost") ∈ gw := gw_3 130 rfl rfl
theorem w3_131 : (Jvm.Cond.lays "GuidePlansModel" "GuidePlansModel" "filled" "I") ∈ gw := gw_3 131 rfl rfl
theorem w3_132 : (Jvm.Cond.soleField "GuidePlansModel" "filled") ∈ gw := gw_3 132 rfl rfl
theorem w3_133 : (Jvm.Cond.superclass "GuidePlansModel" "java/lang/Object") ∈ gw := gw_3 133 rfl rfl
theorem w3_134 : (Jvm.Cond.methodLink "GuidePlansLaw" (69 : Nat) ({ cls := "GuidePlansModel", name := "thrown", desc := "()I" } : Jvm.MethodName)) ∈ gw := gw_3 134 rfl rfl
theorem w3_135 : (Jvm.Cond.instanceMethod ({ cls := "GuidePlansModel", name := "thrown", desc := "()I" } : Jvm.MethodName)) ∈ gw := gw_3 135 rfl rfl
theorem w3_136 : (Jvm.Cond.selects "GuidePlansModel" ({ cls := "GuidePlansModel", name := "thrown", desc := "()I" } : Jvm.MethodName) ({ cls := "GuidePlansModel", name := "thrown", desc := "()I" } : Jvm.MethodName)) ∈ gw := gw_3 136 rfl rfl
theorem w3_137 : (Jvm.Cond.code ({ cls := "GuidePlansModel", name := "thrown", desc := "()I" } : Jvm.MethodName) prog_5_method_2_code (1 : Nat) (Option.some Jvm.ClassFile.FieldType.int)) ∈ gw := gw_3 137 rfl rfl
theorem w3_138 : (Jvm.Cond.methodLink "GuidePlansLaw" (68 : Nat) ({ cls := "GuidePlansModel", name := "person", desc := "(I)I" } : Jvm.MethodName)) ∈ gw := gw_3 138 rfl rfl
theorem w3_139 : (Jvm.Cond.instanceMethod ({ cls := "GuidePlansModel", name := "person", desc := "(I)I" } : Jvm.MethodName)) ∈ gw := gw_3 139 rfl rfl
theorem w3_140 : (Jvm.Cond.selects "GuidePlansModel" ({ cls := "GuidePlansModel", name := "person", desc := "(I)I" } : Jvm.MethodName) ({ cls := "GuidePlansModel", name := "person", desc := "(I)I" } : Jvm.MethodName)) ∈ gw := gw_3 140 rfl rfl
theorem w3_141 : (Jvm.Cond.code ({ cls := "GuidePlansModel", name := "person", desc := "(I)I" } : Jvm.MethodName) prog_5_method_8_code (2 : Nat) (Option.some Jvm.ClassFile.FieldType.int)) ∈ gw := gw_3 141 rfl rfl
theorem w3_142 : (Jvm.Cond.methodLink "GuidePlansModel" (66 : Nat) ({ cls := "GuidePlansModel", name := "within", desc := "(III)Z" } : Jvm.MethodName)) ∈ gw := gw_3 142 rfl rfl
theorem w3_143 : (Jvm.Cond.static ({ cls := "GuidePlansModel", name := "within", desc := "(III)Z" } : Jvm.MethodName)) ∈ gw := gw_3 143 rfl rfl
theorem w3_144 : (Jvm.Cond.code ({ cls := "GuidePlansModel", name := "within", desc := "(III)Z" } : Jvm.MethodName) prog_5_method_4_code (3 : Nat) (Option.some Jvm.ClassFile.FieldType.boolean)) ∈ gw := gw_3 144 rfl rfl
theorem w3_145 : (Jvm.Cond.methodLink "GuidePlansModel" (70 : Nat) ({ cls := "GuidePlansModel", name := "goes", desc := "(ZZZ)Z" } : Jvm.MethodName)) ∈ gw := gw_3 145 rfl rfl
theorem w3_147 : (Jvm.Cond.instanceMethod ({ cls := "GuidePlansModel", name := "goes", desc := "(ZZZ)Z" } : Jvm.MethodName)) ∈ gw := gw_3 147 rfl rfl
theorem w3_148 : (Jvm.Cond.code ({ cls := "GuidePlansModel", name := "goes", desc := "(ZZZ)Z" } : Jvm.MethodName) prog_5_method_3_code (4 : Nat) (Option.some Jvm.ClassFile.FieldType.boolean)) ∈ gw := gw_3 148 rfl rfl
theorem w3_149 : (Jvm.Cond.methodLink "GuidePlansLaw" (75 : Nat) ({ cls := "GuidePlansModel", name := "off", desc := "(III)I" } : Jvm.MethodName)) ∈ gw := gw_3 149 rfl rfl
theorem w3_150 : (Jvm.Cond.instanceMethod ({ cls := "GuidePlansModel", name := "off", desc := "(III)I" } : Jvm.MethodName)) ∈ gw := gw_3 150 rfl rfl
theorem w3_151 : (Jvm.Cond.selects "GuidePlansModel" ({ cls := "GuidePlansModel", name := "off", desc := "(III)I" } : Jvm.MethodName) ({ cls := "GuidePlansModel", name := "off", desc := "(III)I" } : Jvm.MethodName)) ∈ gw := gw_3 151 rfl rfl
theorem w3_152 : (Jvm.Cond.code ({ cls := "GuidePlansModel", name := "off", desc := "(III)I" } : Jvm.MethodName) prog_5_method_10_code (4 : Nat) (Option.some Jvm.ClassFile.FieldType.int)) ∈ gw := gw_3 152 rfl rfl
theorem w3_153 : (Jvm.Cond.methodLink "GuidePlansModel" (77 : Nat) ({ cls := "GuidePlansModel", name := "isPerson", desc := "(I)Z" } : Jvm.MethodName)) ∈ gw := gw_3 153 rfl rfl
theorem w3_155 : (Jvm.Cond.instanceMethod ({ cls := "GuidePlansModel", name := "isPerson", desc := "(I)Z" } : Jvm.MethodName)) ∈ gw := gw_3 155 rfl rfl
theorem w3_156 : (Jvm.Cond.code ({ cls := "GuidePlansModel", name := "isPerson", desc := "(I)Z" } : Jvm.MethodName) prog_5_method_6_code (2 : Nat) (Option.some Jvm.ClassFile.FieldType.boolean)) ∈ gw := gw_3 156 rfl rfl
theorem w3_157 : (Jvm.Cond.methodLink "GuidePlansModel" (81 : Nat) ({ cls := "GuidePlansModel", name := "isSpan", desc := "(II)Z" } : Jvm.MethodName)) ∈ gw := gw_3 157 rfl rfl
theorem w3_158 : (Jvm.Cond.static ({ cls := "GuidePlansModel", name := "isSpan", desc := "(II)Z" } : Jvm.MethodName)) ∈ gw := gw_3 158 rfl rfl
theorem w3_159 : (Jvm.Cond.code ({ cls := "GuidePlansModel", name := "isSpan", desc := "(II)Z" } : Jvm.MethodName) prog_5_method_5_code (2 : Nat) (Option.some Jvm.ClassFile.FieldType.boolean)) ∈ gw := gw_3 159 rfl rfl
theorem w3_160 : (Jvm.Cond.methodLink "GuidePlansModel" (85 : Nat) ({ cls := "GuidePlansModel", name := "leave", desc := "(III)V" } : Jvm.MethodName)) ∈ gw := gw_3 160 rfl rfl
theorem w3_162 : (Jvm.Cond.instanceMethod ({ cls := "GuidePlansModel", name := "leave", desc := "(III)V" } : Jvm.MethodName)) ∈ gw := gw_3 162 rfl rfl
theorem w3_163 : (Jvm.Cond.code ({ cls := "GuidePlansModel", name := "leave", desc := "(III)V" } : Jvm.MethodName) prog_5_method_9_code (4 : Nat) (Option.none : Option Jvm.ClassFile.FieldType)) ∈ gw := gw_3 163 rfl rfl
theorem w3_164 : (Jvm.Cond.methodLink "GuidePlansLaw" (79 : Nat) ({ cls := "GuidePlansModel", name := "task", desc := "(IIIZ)I" } : Jvm.MethodName)) ∈ gw := gw_3 164 rfl rfl
theorem w3_165 : (Jvm.Cond.instanceMethod ({ cls := "GuidePlansModel", name := "task", desc := "(IIIZ)I" } : Jvm.MethodName)) ∈ gw := gw_3 165 rfl rfl
theorem w3_166 : (Jvm.Cond.selects "GuidePlansModel" ({ cls := "GuidePlansModel", name := "task", desc := "(IIIZ)I" } : Jvm.MethodName) ({ cls := "GuidePlansModel", name := "task", desc := "(IIIZ)I" } : Jvm.MethodName)) ∈ gw := gw_3 166 rfl rfl
theorem w3_167 : (Jvm.Cond.code ({ cls := "GuidePlansModel", name := "task", desc := "(IIIZ)I" } : Jvm.MethodName) prog_5_method_11_code (5 : Nat) (Option.some Jvm.ClassFile.FieldType.int)) ∈ gw := gw_3 167 rfl rfl
theorem w3_168 : (Jvm.Cond.methodLink "GuidePlansLaw" (82 : Nat) ({ cls := "GuidePlansModel", name := "rest", desc := "(I)I" } : Jvm.MethodName)) ∈ gw := gw_3 168 rfl rfl
theorem w3_169 : (Jvm.Cond.instanceMethod ({ cls := "GuidePlansModel", name := "rest", desc := "(I)I" } : Jvm.MethodName)) ∈ gw := gw_3 169 rfl rfl
theorem w3_170 : (Jvm.Cond.selects "GuidePlansModel" ({ cls := "GuidePlansModel", name := "rest", desc := "(I)I" } : Jvm.MethodName) ({ cls := "GuidePlansModel", name := "rest", desc := "(I)I" } : Jvm.MethodName)) ∈ gw := gw_3 170 rfl rfl
theorem w3_171 : (Jvm.Cond.code ({ cls := "GuidePlansModel", name := "rest", desc := "(I)I" } : Jvm.MethodName) prog_5_method_12_code (3 : Nat) (Option.some Jvm.ClassFile.FieldType.int)) ∈ gw := gw_3 171 rfl rfl
theorem w3_172 : (Jvm.Cond.methodLink "GuidePlansLaw" (85 : Nat) ({ cls := "GuidePlansModel", name := "limit", desc := "(I)I" } : Jvm.MethodName)) ∈ gw := gw_3 172 rfl rfl
theorem w3_173 : (Jvm.Cond.instanceMethod ({ cls := "GuidePlansModel", name := "limit", desc := "(I)I" } : Jvm.MethodName)) ∈ gw := gw_3 173 rfl rfl
theorem w3_174 : (Jvm.Cond.selects "GuidePlansModel" ({ cls := "GuidePlansModel", name := "limit", desc := "(I)I" } : Jvm.MethodName) ({ cls := "GuidePlansModel", name := "limit", desc := "(I)I" } : Jvm.MethodName)) ∈ gw := gw_3 174 rfl rfl
theorem w3_175 : (Jvm.Cond.code ({ cls := "GuidePlansModel", name := "limit", desc := "(I)I" } : Jvm.MethodName) prog_5_method_13_code (3 : Nat) (Option.some Jvm.ClassFile.FieldType.int)) ∈ gw := gw_3 175 rfl rfl
theorem w3_176 : (Jvm.Cond.methodLink "GuidePlansLaw" (88 : Nat) ({ cls := "GuidePlansModel", name := "freeze", desc := "(I)I" } : Jvm.MethodName)) ∈ gw := gw_3 176 rfl rfl
theorem w3_177 : (Jvm.Cond.instanceMethod ({ cls := "GuidePlansModel", name := "freeze", desc := "(I)I" } : Jvm.MethodName)) ∈ gw := gw_3 177 rfl rfl
theorem w3_178 : (Jvm.Cond.selects "GuidePlansModel" ({ cls := "GuidePlansModel", name := "freeze", desc := "(I)I" } : Jvm.MethodName) ({ cls := "GuidePlansModel", name := "freeze", desc := "(I)I" } : Jvm.MethodName)) ∈ gw := gw_3 178 rfl rfl
theorem w3_179 : (Jvm.Cond.code ({ cls := "GuidePlansModel", name := "freeze", desc := "(I)I" } : Jvm.MethodName) prog_5_method_14_code (3 : Nat) (Option.some Jvm.ClassFile.FieldType.int)) ∈ gw := gw_3 179 rfl rfl
theorem w3_180 : (Jvm.Cond.methodLink "GuidePlansLaw" (92 : Nat) ({ cls := "GuidePlansModel", name := "run", desc := "()I" } : Jvm.MethodName)) ∈ gw := gw_3 180 rfl rfl
theorem w3_181 : (Jvm.Cond.instanceMethod ({ cls := "GuidePlansModel", name := "run", desc := "()I" } : Jvm.MethodName)) ∈ gw := gw_3 181 rfl rfl
theorem w3_182 : (Jvm.Cond.selects "GuidePlansModel" ({ cls := "GuidePlansModel", name := "run", desc := "()I" } : Jvm.MethodName) ({ cls := "GuidePlansModel", name := "run", desc := "()I" } : Jvm.MethodName)) ∈ gw := gw_3 182 rfl rfl
theorem w3_183 : (Jvm.Cond.code ({ cls := "GuidePlansModel", name := "run", desc := "()I" } : Jvm.MethodName) prog_5_method_26_code (2 : Nat) (Option.some Jvm.ClassFile.FieldType.int)) ∈ gw := gw_3 183 rfl rfl
theorem w3_184 : (Jvm.Cond.methodLink "GuidePlansModel" (139 : Nat) ({ cls := "GuidePlansModel", name := "seek", desc := "(Z)V" } : Jvm.MethodName)) ∈ gw := gw_3 184 rfl rfl
theorem w3_186 : (Jvm.Cond.instanceMethod ({ cls := "GuidePlansModel", name := "seek", desc := "(Z)V" } : Jvm.MethodName)) ∈ gw := gw_3 186 rfl rfl
theorem w3_187 : (Jvm.Cond.code ({ cls := "GuidePlansModel", name := "seek", desc := "(Z)V" } : Jvm.MethodName) prog_5_method_23_code (8 : Nat) (Option.none : Option Jvm.ClassFile.FieldType)) ∈ gw := gw_3 187 rfl rfl
theorem w3_188 : (Jvm.Cond.methodLink "GuidePlansModel" (115 : Nat) ({ cls := "GuidePlansModel", name := "may", desc := "()Z" } : Jvm.MethodName)) ∈ gw := gw_3 188 rfl rfl
theorem w3_190 : (Jvm.Cond.instanceMethod ({ cls := "GuidePlansModel", name := "may", desc := "()Z" } : Jvm.MethodName)) ∈ gw := gw_3 190 rfl rfl
theorem w3_191 : (Jvm.Cond.code ({ cls := "GuidePlansModel", name := "may", desc := "()Z" } : Jvm.MethodName) prog_5_method_20_code (3 : Nat) (Option.some Jvm.ClassFile.FieldType.boolean)) ∈ gw := gw_3 191 rfl rfl
theorem w3_192 : (Jvm.Cond.methodLink "GuidePlansModel" (98 : Nat) ({ cls := "GuidePlansModel", name := "suits", desc := "(II)Z" } : Jvm.MethodName)) ∈ gw := gw_3 192 rfl rfl
theorem w3_194 : (Jvm.Cond.instanceMethod ({ cls := "GuidePlansModel", name := "suits", desc := "(II)Z" } : Jvm.MethodName)) ∈ gw := gw_3 194 rfl rfl
theorem w3_195 : (Jvm.Cond.code ({ cls := "GuidePlansModel", name := "suits", desc := "(II)Z" } : Jvm.MethodName) prog_5_method_15_code (5 : Nat) (Option.some Jvm.ClassFile.FieldType.boolean)) ∈ gw := gw_3 195 rfl rfl
theorem w3_196 : (Jvm.Cond.methodLink "GuidePlansModel" (101 : Nat) ({ cls := "GuidePlansModel", name := "quarters", desc := "(I)I" } : Jvm.MethodName)) ∈ gw := gw_3 196 rfl rfl
theorem w3_198 : (Jvm.Cond.instanceMethod ({ cls := "GuidePlansModel", name := "quarters", desc := "(I)I" } : Jvm.MethodName)) ∈ gw := gw_3 198 rfl rfl
theorem w3_199 : (Jvm.Cond.code ({ cls := "GuidePlansModel", name := "quarters", desc := "(I)I" } : Jvm.MethodName) prog_5_method_18_code (4 : Nat) (Option.some Jvm.ClassFile.FieldType.int)) ∈ gw := gw_3 199 rfl rfl
theorem w3_200 : (Jvm.Cond.methodLink "GuidePlansModel" (105 : Nat) ({ cls := "GuidePlansModel", name := "hasNear", desc := "(I)Z" } : Jvm.MethodName)) ∈ gw := gw_3 200 rfl rfl
theorem w3_202 : (Jvm.Cond.instanceMethod ({ cls := "GuidePlansModel", name := "hasNear", desc := "(I)Z" } : Jvm.MethodName)) ∈ gw := gw_3 202 rfl rfl
theorem w3_203 : (Jvm.Cond.code ({ cls := "GuidePlansModel", name := "hasNear", desc := "(I)Z" } : Jvm.MethodName) prog_5_method_17_code (5 : Nat) (Option.some Jvm.ClassFile.FieldType.boolean)) ∈ gw := gw_3 203 rfl rfl
theorem w3_204 : (Jvm.Cond.methodLink "GuidePlansModel" (95 : Nat) ({ cls := "GuidePlansModel", name := "isNear", desc := "(II)Z" } : Jvm.MethodName)) ∈ gw := gw_3 204 rfl rfl
theorem w3_206 : (Jvm.Cond.instanceMethod ({ cls := "GuidePlansModel", name := "isNear", desc := "(II)Z" } : Jvm.MethodName)) ∈ gw := gw_3 206 rfl rfl
theorem w3_207 : (Jvm.Cond.code ({ cls := "GuidePlansModel", name := "isNear", desc := "(II)Z" } : Jvm.MethodName) prog_5_method_16_code (3 : Nat) (Option.some Jvm.ClassFile.FieldType.boolean)) ∈ gw := gw_3 207 rfl rfl
theorem w3_208 : (Jvm.Cond.methodLink "GuidePlansModel" (119 : Nat) ({ cls := "GuidePlansModel", name := "full", desc := "()I" } : Jvm.MethodName)) ∈ gw := gw_3 208 rfl rfl
theorem w3_210 : (Jvm.Cond.instanceMethod ({ cls := "GuidePlansModel", name := "full", desc := "()I" } : Jvm.MethodName)) ∈ gw := gw_3 210 rfl rfl
theorem w3_211 : (Jvm.Cond.code ({ cls := "GuidePlansModel", name := "full", desc := "()I" } : Jvm.MethodName) prog_5_method_21_code (2 : Nat) (Option.some Jvm.ClassFile.FieldType.int)) ∈ gw := gw_3 211 rfl rfl
theorem w3_212 : (Jvm.Cond.methodLink "GuidePlansModel" (123 : Nat) ({ cls := "GuidePlansModel", name := "differences", desc := "()I" } : Jvm.MethodName)) ∈ gw := gw_3 212 rfl rfl
theorem w3_214 : (Jvm.Cond.instanceMethod ({ cls := "GuidePlansModel", name := "differences", desc := "()I" } : Jvm.MethodName)) ∈ gw := gw_3 214 rfl rfl
theorem w3_215 : (Jvm.Cond.code ({ cls := "GuidePlansModel", name := "differences", desc := "()I" } : Jvm.MethodName) prog_5_method_22_code (3 : Nat) (Option.some Jvm.ClassFile.FieldType.int)) ∈ gw := gw_3 215 rfl rfl
theorem w3_216 : (Jvm.Cond.methodLink "GuidePlansModel" (129 : Nat) ({ cls := "GuidePlansModel", name := "costOf", desc := "()I" } : Jvm.MethodName)) ∈ gw := gw_3 216 rfl rfl
theorem w3_218 : (Jvm.Cond.instanceMethod ({ cls := "GuidePlansModel", name := "costOf", desc := "()I" } : Jvm.MethodName)) ∈ gw := gw_3 218 rfl rfl
theorem w3_219 : (Jvm.Cond.code ({ cls := "GuidePlansModel", name := "costOf", desc := "()I" } : Jvm.MethodName) prog_5_method_19_code (5 : Nat) (Option.some Jvm.ClassFile.FieldType.int)) ∈ gw := gw_3 219 rfl rfl
theorem w3_220 : (Jvm.Cond.methodLink "GuidePlansModel" (135 : Nat) ({ cls := "GuidePlansModel", name := "keep", desc := "(I)V" } : Jvm.MethodName)) ∈ gw := gw_3 220 rfl rfl
theorem w3_222 : (Jvm.Cond.instanceMethod ({ cls := "GuidePlansModel", name := "keep", desc := "(I)V" } : Jvm.MethodName)) ∈ gw := gw_3 222 rfl rfl
theorem w3_223 : (Jvm.Cond.code ({ cls := "GuidePlansModel", name := "keep", desc := "(I)V" } : Jvm.MethodName) prog_5_method_24_code (3 : Nat) (Option.none : Option Jvm.ClassFile.FieldType)) ∈ gw := gw_3 223 rfl rfl
theorem w3_224 : (Jvm.Cond.methodLink "GuidePlansModel" (143 : Nat) ({ cls := "GuidePlansModel", name := "tell", desc := "()V" } : Jvm.MethodName)) ∈ gw := gw_3 224 rfl rfl
theorem w3_226 : (Jvm.Cond.instanceMethod ({ cls := "GuidePlansModel", name := "tell", desc := "()V" } : Jvm.MethodName)) ∈ gw := gw_3 226 rfl rfl
theorem w3_227 : (Jvm.Cond.code ({ cls := "GuidePlansModel", name := "tell", desc := "()V" } : Jvm.MethodName) prog_5_method_25_code (2 : Nat) (Option.none : Option Jvm.ClassFile.FieldType)) ∈ gw := gw_3 227 rfl rfl
theorem w3_228 : (Jvm.Cond.methodLink "GuidePlansLaw" (96 : Nat) ({ cls := "GuidePlansModel", name := "told", desc := "()I" } : Jvm.MethodName)) ∈ gw := gw_3 228 rfl rfl
theorem w3_229 : (Jvm.Cond.instanceMethod ({ cls := "GuidePlansModel", name := "told", desc := "()I" } : Jvm.MethodName)) ∈ gw := gw_3 229 rfl rfl
theorem w3_230 : (Jvm.Cond.selects "GuidePlansModel" ({ cls := "GuidePlansModel", name := "told", desc := "()I" } : Jvm.MethodName) ({ cls := "GuidePlansModel", name := "told", desc := "()I" } : Jvm.MethodName)) ∈ gw := gw_3 230 rfl rfl
theorem w3_231 : (Jvm.Cond.code ({ cls := "GuidePlansModel", name := "told", desc := "()I" } : Jvm.MethodName) prog_5_method_27_code (1 : Nat) (Option.some Jvm.ClassFile.FieldType.int)) ∈ gw := gw_3 231 rfl rfl
theorem w3_232 : (Jvm.Cond.methodLink "GuidePlansLaw" (99 : Nat) ({ cls := "GuidePlansModel", name := "of", desc := "(I)I" } : Jvm.MethodName)) ∈ gw := gw_3 232 rfl rfl
theorem w3_233 : (Jvm.Cond.instanceMethod ({ cls := "GuidePlansModel", name := "of", desc := "(I)I" } : Jvm.MethodName)) ∈ gw := gw_3 233 rfl rfl
theorem w3_234 : (Jvm.Cond.selects "GuidePlansModel" ({ cls := "GuidePlansModel", name := "of", desc := "(I)I" } : Jvm.MethodName) ({ cls := "GuidePlansModel", name := "of", desc := "(I)I" } : Jvm.MethodName)) ∈ gw := gw_3 234 rfl rfl
theorem w3_235 : (Jvm.Cond.code ({ cls := "GuidePlansModel", name := "of", desc := "(I)I" } : Jvm.MethodName) prog_5_method_28_code (2 : Nat) (Option.some Jvm.ClassFile.FieldType.int)) ∈ gw := gw_3 235 rfl rfl
theorem w3_236 : (Jvm.Cond.methodLink "GuidePlansModel" (149 : Nat) ({ cls := "GuidePlansModel", name := "isTask", desc := "(I)Z" } : Jvm.MethodName)) ∈ gw := gw_3 236 rfl rfl
theorem w3_238 : (Jvm.Cond.instanceMethod ({ cls := "GuidePlansModel", name := "isTask", desc := "(I)Z" } : Jvm.MethodName)) ∈ gw := gw_3 238 rfl rfl
theorem w3_239 : (Jvm.Cond.code ({ cls := "GuidePlansModel", name := "isTask", desc := "(I)Z" } : Jvm.MethodName) prog_5_method_7_code (2 : Nat) (Option.some Jvm.ClassFile.FieldType.boolean)) ∈ gw := gw_3 239 rfl rfl
theorem w4_0 : (Jvm.Cond.methodLink "GuidePlansLaw" (103 : Nat) ({ cls := "GuidePlansModel", name := "cost", desc := "()I" } : Jvm.MethodName)) ∈ gw := gw_4 0 rfl rfl
theorem w4_1 : (Jvm.Cond.instanceMethod ({ cls := "GuidePlansModel", name := "cost", desc := "()I" } : Jvm.MethodName)) ∈ gw := gw_4 1 rfl rfl
theorem w4_2 : (Jvm.Cond.selects "GuidePlansModel" ({ cls := "GuidePlansModel", name := "cost", desc := "()I" } : Jvm.MethodName) ({ cls := "GuidePlansModel", name := "cost", desc := "()I" } : Jvm.MethodName)) ∈ gw := gw_4 2 rfl rfl
theorem w4_3 : (Jvm.Cond.code ({ cls := "GuidePlansModel", name := "cost", desc := "()I" } : Jvm.MethodName) prog_5_method_30_code (1 : Nat) (Option.some Jvm.ClassFile.FieldType.int)) ∈ gw := gw_4 3 rfl rfl
theorem w4_4 : (Jvm.Cond.methodLink "GuidePlansModel" (152 : Nat) ({ cls := "GuidePlansModel", name := "tryPlan", desc := "()V" } : Jvm.MethodName)) ∈ gw := gw_4 4 rfl rfl
theorem w4_6 : (Jvm.Cond.instanceMethod ({ cls := "GuidePlansModel", name := "tryPlan", desc := "()V" } : Jvm.MethodName)) ∈ gw := gw_4 6 rfl rfl
theorem w4_7 : (Jvm.Cond.code ({ cls := "GuidePlansModel", name := "tryPlan", desc := "()V" } : Jvm.MethodName) prog_5_method_29_code (2 : Nat) (Option.none : Option Jvm.ClassFile.FieldType)) ∈ gw := gw_4 7 rfl rfl
theorem w4_8 : (Jvm.Cond.methodLink "GuidePlansLaw" (107 : Nat) ({ cls := "GuidePlansModel", name := "absent", desc := "(II)I" } : Jvm.MethodName)) ∈ gw := gw_4 8 rfl rfl
theorem w4_9 : (Jvm.Cond.instanceMethod ({ cls := "GuidePlansModel", name := "absent", desc := "(II)I" } : Jvm.MethodName)) ∈ gw := gw_4 9 rfl rfl
theorem w4_10 : (Jvm.Cond.selects "GuidePlansModel" ({ cls := "GuidePlansModel", name := "absent", desc := "(II)I" } : Jvm.MethodName) ({ cls := "GuidePlansModel", name := "absent", desc := "(II)I" } : Jvm.MethodName)) ∈ gw := gw_4 10 rfl rfl
theorem w4_11 : (Jvm.Cond.code ({ cls := "GuidePlansModel", name := "absent", desc := "(II)I" } : Jvm.MethodName) prog_5_method_31_code (4 : Nat) (Option.some Jvm.ClassFile.FieldType.int)) ∈ gw := gw_4 11 rfl rfl
theorem w4_12 : (Jvm.Cond.methodLink "GuidePlansLaw" (110 : Nat) ({ cls := "GuidePlansModel", name := "changed", desc := "(I)I" } : Jvm.MethodName)) ∈ gw := gw_4 12 rfl rfl
theorem w4_13 : (Jvm.Cond.instanceMethod ({ cls := "GuidePlansModel", name := "changed", desc := "(I)I" } : Jvm.MethodName)) ∈ gw := gw_4 13 rfl rfl
theorem w4_14 : (Jvm.Cond.selects "GuidePlansModel" ({ cls := "GuidePlansModel", name := "changed", desc := "(I)I" } : Jvm.MethodName) ({ cls := "GuidePlansModel", name := "changed", desc := "(I)I" } : Jvm.MethodName)) ∈ gw := gw_4 14 rfl rfl
theorem w4_15 : (Jvm.Cond.code ({ cls := "GuidePlansModel", name := "changed", desc := "(I)I" } : Jvm.MethodName) prog_5_method_32_code (2 : Nat) (Option.some Jvm.ClassFile.FieldType.int)) ∈ gw := gw_4 15 rfl rfl
theorem w4_16 : (Jvm.Cond.methodLink "GuidePlansLaw" (113 : Nat) ({ cls := "GuidePlansModel", name := "swap", desc := "(II)I" } : Jvm.MethodName)) ∈ gw := gw_4 16 rfl rfl
theorem w4_17 : (Jvm.Cond.instanceMethod ({ cls := "GuidePlansModel", name := "swap", desc := "(II)I" } : Jvm.MethodName)) ∈ gw := gw_4 17 rfl rfl
theorem w4_18 : (Jvm.Cond.selects "GuidePlansModel" ({ cls := "GuidePlansModel", name := "swap", desc := "(II)I" } : Jvm.MethodName) ({ cls := "GuidePlansModel", name := "swap", desc := "(II)I" } : Jvm.MethodName)) ∈ gw := gw_4 18 rfl rfl
theorem w4_19 : (Jvm.Cond.code ({ cls := "GuidePlansModel", name := "swap", desc := "(II)I" } : Jvm.MethodName) prog_5_method_35_code (5 : Nat) (Option.some Jvm.ClassFile.FieldType.int)) ∈ gw := gw_4 19 rfl rfl
theorem w4_20 : (Jvm.Cond.methodLink "GuidePlansModel" (158 : Nat) ({ cls := "GuidePlansModel", name := "isEmptied", desc := "(II)Z" } : Jvm.MethodName)) ∈ gw := gw_4 20 rfl rfl
theorem w4_22 : (Jvm.Cond.instanceMethod ({ cls := "GuidePlansModel", name := "isEmptied", desc := "(II)Z" } : Jvm.MethodName)) ∈ gw := gw_4 22 rfl rfl
theorem w4_23 : (Jvm.Cond.code ({ cls := "GuidePlansModel", name := "isEmptied", desc := "(II)Z" } : Jvm.MethodName) prog_5_method_33_code (3 : Nat) (Option.some Jvm.ClassFile.FieldType.boolean)) ∈ gw := gw_4 23 rfl rfl
theorem w4_24 : (Jvm.Cond.methodLink "GuidePlansModel" (161 : Nat) ({ cls := "GuidePlansModel", name := "isUnfit", desc := "(II)Z" } : Jvm.MethodName)) ∈ gw := gw_4 24 rfl rfl
theorem w4_26 : (Jvm.Cond.instanceMethod ({ cls := "GuidePlansModel", name := "isUnfit", desc := "(II)Z" } : Jvm.MethodName)) ∈ gw := gw_4 26 rfl rfl
theorem w4_27 : (Jvm.Cond.code ({ cls := "GuidePlansModel", name := "isUnfit", desc := "(II)Z" } : Jvm.MethodName) prog_5_method_34_code (3 : Nat) (Option.some Jvm.ClassFile.FieldType.boolean)) ∈ gw := gw_4 27 rfl rfl
theorem w4_28 : (Jvm.Cond.methodLink "GuidePlansLaw" (116 : Nat) ({ cls := "GuidePlansModel", name := "work", desc := "(I)I" } : Jvm.MethodName)) ∈ gw := gw_4 28 rfl rfl
theorem w4_29 : (Jvm.Cond.instanceMethod ({ cls := "GuidePlansModel", name := "work", desc := "(I)I" } : Jvm.MethodName)) ∈ gw := gw_4 29 rfl rfl
theorem w4_30 : (Jvm.Cond.selects "GuidePlansModel" ({ cls := "GuidePlansModel", name := "work", desc := "(I)I" } : Jvm.MethodName) ({ cls := "GuidePlansModel", name := "work", desc := "(I)I" } : Jvm.MethodName)) ∈ gw := gw_4 30 rfl rfl
theorem w4_31 : (Jvm.Cond.code ({ cls := "GuidePlansModel", name := "work", desc := "(I)I" } : Jvm.MethodName) prog_5_method_36_code (2 : Nat) (Option.some Jvm.ClassFile.FieldType.int)) ∈ gw := gw_4 31 rfl rfl
theorem w4_32 : (Jvm.Cond.methodLink "GuidePlansLaw" (120 : Nat) ({ cls := "GuidePlansModel", name := "fair", desc := "()I" } : Jvm.MethodName)) ∈ gw := gw_4 32 rfl rfl
theorem w4_33 : (Jvm.Cond.instanceMethod ({ cls := "GuidePlansModel", name := "fair", desc := "()I" } : Jvm.MethodName)) ∈ gw := gw_4 33 rfl rfl
theorem w4_34 : (Jvm.Cond.selects "GuidePlansModel" ({ cls := "GuidePlansModel", name := "fair", desc := "()I" } : Jvm.MethodName) ({ cls := "GuidePlansModel", name := "fair", desc := "()I" } : Jvm.MethodName)) ∈ gw := gw_4 34 rfl rfl
theorem w4_35 : (Jvm.Cond.code ({ cls := "GuidePlansModel", name := "fair", desc := "()I" } : Jvm.MethodName) prog_5_method_37_code (6 : Nat) (Option.some Jvm.ClassFile.FieldType.int)) ∈ gw := gw_4 35 rfl rfl
theorem w4_36 : (Jvm.Cond.methodLink "GuidePlansLaw" (123 : Nat) ({ cls := "GuidePlansModel", name := "count", desc := "(I)I" } : Jvm.MethodName)) ∈ gw := gw_4 36 rfl rfl
theorem w4_37 : (Jvm.Cond.instanceMethod ({ cls := "GuidePlansModel", name := "count", desc := "(I)I" } : Jvm.MethodName)) ∈ gw := gw_4 37 rfl rfl
theorem w4_38 : (Jvm.Cond.selects "GuidePlansModel" ({ cls := "GuidePlansModel", name := "count", desc := "(I)I" } : Jvm.MethodName) ({ cls := "GuidePlansModel", name := "count", desc := "(I)I" } : Jvm.MethodName)) ∈ gw := gw_4 38 rfl rfl
theorem w4_39 : (Jvm.Cond.code ({ cls := "GuidePlansModel", name := "count", desc := "(I)I" } : Jvm.MethodName) prog_5_method_38_code (2 : Nat) (Option.some Jvm.ClassFile.FieldType.int)) ∈ gw := gw_4 39 rfl rfl
theorem w4_40 : (Jvm.Cond.arrayClass Jvm.ClassFile.FieldType.long) ∈ gw := gw_4 40 rfl rfl
theorem w4_41 : (Jvm.Cond.sameMethod "java/lang/Throwable" "java/lang/Throwable" "fillInStackTrace" "(I)Ljava/lang/Throwable;") ∈ gw := gw_4 41 rfl rfl
theorem w0_0 : (Jvm.Cond.selects "GuidePlans$Search" ({ cls := "GuidePlans$Search", name := "find", desc := "(LGuidePlans$Day;[III)Z" } : Jvm.MethodName) ({ cls := "GuidePlans$Search", name := "find", desc := "(LGuidePlans$Day;[III)Z" } : Jvm.MethodName)) ∈ gw := gw_0 0 rfl rfl
theorem w0_1 : (Jvm.Cond.selects "GuidePlans$Search" ({ cls := "GuidePlans$Search", name := "bitOf", desc := "(I)I" } : Jvm.MethodName) ({ cls := "GuidePlans$Search", name := "bitOf", desc := "(I)I" } : Jvm.MethodName)) ∈ gw := gw_0 1 rfl rfl
theorem w0_2 : (Jvm.Cond.selects "GuidePlans$Search" ({ cls := "GuidePlans$Search", name := "bitsOfSuiting", desc := "(LGuidePlans$Day;I)I" } : Jvm.MethodName) ({ cls := "GuidePlans$Search", name := "bitsOfSuiting", desc := "(LGuidePlans$Day;I)I" } : Jvm.MethodName)) ∈ gw := gw_0 2 rfl rfl
theorem w0_3 : (Jvm.Cond.selects "GuidePlans$Day" ({ cls := "GuidePlans$Day", name := "isOffIn", desc := "(II)Z" } : Jvm.MethodName) ({ cls := "GuidePlans$Day", name := "isOffIn", desc := "(II)Z" } : Jvm.MethodName)) ∈ gw := gw_0 3 rfl rfl
theorem w0_4 : (Jvm.Cond.selects "GuidePlans$Search" ({ cls := "GuidePlans$Search", name := "bitsOfTooNear", desc := "(LGuidePlans$Day;I)I" } : Jvm.MethodName) ({ cls := "GuidePlans$Search", name := "bitsOfTooNear", desc := "(LGuidePlans$Day;I)I" } : Jvm.MethodName)) ∈ gw := gw_0 4 rfl rfl
theorem w0_5 : (Jvm.Cond.selects "GuidePlans$Search" ({ cls := "GuidePlans$Search", name := "place", desc := "(LGuidePlans$Day;[III)V" } : Jvm.MethodName) ({ cls := "GuidePlans$Search", name := "place", desc := "(LGuidePlans$Day;[III)V" } : Jvm.MethodName)) ∈ gw := gw_0 5 rfl rfl
theorem w0_6 : (Jvm.Cond.selects "GuidePlans$Search" ({ cls := "GuidePlans$Search", name := "keepTrial", desc := "(II)V" } : Jvm.MethodName) ({ cls := "GuidePlans$Search", name := "keepTrial", desc := "(II)V" } : Jvm.MethodName)) ∈ gw := gw_0 6 rfl rfl
theorem w0_7 : (Jvm.Cond.selects "GuidePlans$Search" ({ cls := "GuidePlans$Search", name := "mayTake", desc := "(LGuidePlans$Day;II)Z" } : Jvm.MethodName) ({ cls := "GuidePlans$Search", name := "mayTake", desc := "(LGuidePlans$Day;II)Z" } : Jvm.MethodName)) ∈ gw := gw_0 7 rfl rfl
theorem w0_8 : (Jvm.Cond.selects "GuidePlans$Search" ({ cls := "GuidePlans$Search", name := "placePerson", desc := "(LGuidePlans$Day;[IIII)V" } : Jvm.MethodName) ({ cls := "GuidePlans$Search", name := "placePerson", desc := "(LGuidePlans$Day;[IIII)V" } : Jvm.MethodName)) ∈ gw := gw_0 8 rfl rfl
theorem w0_9 : (Jvm.Cond.selects "GuidePlans$Search" ({ cls := "GuidePlans$Search", name := "weightOf", desc := "(III)I" } : Jvm.MethodName) ({ cls := "GuidePlans$Search", name := "weightOf", desc := "(III)I" } : Jvm.MethodName)) ∈ gw := gw_0 9 rfl rfl
theorem w0_10 : (Jvm.Cond.selects "GuidePlans" ({ cls := "GuidePlans", name := "adoptFoundPlan", desc := "()V" } : Jvm.MethodName) ({ cls := "GuidePlans", name := "adoptFoundPlan", desc := "()V" } : Jvm.MethodName)) ∈ gw := gw_0 10 rfl rfl
theorem w0_11 : (Jvm.Cond.selects "GuidePlans" ({ cls := "GuidePlans", name := "planCost", desc := "()I" } : Jvm.MethodName) ({ cls := "GuidePlans", name := "planCost", desc := "()I" } : Jvm.MethodName)) ∈ gw := gw_0 11 rfl rfl
theorem w0_12 : (Jvm.Cond.selects "GuidePlans" ({ cls := "GuidePlans", name := "numberOfTasks", desc := "(I)I" } : Jvm.MethodName) ({ cls := "GuidePlans", name := "numberOfTasks", desc := "(I)I" } : Jvm.MethodName)) ∈ gw := gw_0 12 rfl rfl
theorem w0_13 : (Jvm.Cond.selects "java/lang/Throwable" ({ cls := "java/lang/Throwable", name := "fillInStackTrace", desc := "(I)Ljava/lang/Throwable;" } : Jvm.MethodName) ({ cls := "java/lang/Throwable", name := "fillInStackTrace", desc := "(I)Ljava/lang/Throwable;" } : Jvm.MethodName)) ∈ gw := gw_0 13 rfl rfl
theorem w0_14 : (Jvm.Cond.selects "GuidePlans" ({ cls := "GuidePlans", name := "requirePerson", desc := "(I)V" } : Jvm.MethodName) ({ cls := "GuidePlans", name := "requirePerson", desc := "(I)V" } : Jvm.MethodName)) ∈ gw := gw_0 14 rfl rfl
theorem w0_15 : (Jvm.Cond.selects "GuidePlans" ({ cls := "GuidePlans", name := "requireSpan", desc := "(II)V" } : Jvm.MethodName) ({ cls := "GuidePlans", name := "requireSpan", desc := "(II)V" } : Jvm.MethodName)) ∈ gw := gw_0 15 rfl rfl
theorem w0_16 : (Jvm.Cond.selects "GuidePlans" ({ cls := "GuidePlans", name := "requireRoomForSpan", desc := "()V" } : Jvm.MethodName) ({ cls := "GuidePlans", name := "requireRoomForSpan", desc := "()V" } : Jvm.MethodName)) ∈ gw := gw_0 16 rfl rfl
theorem w0_17 : (Jvm.Cond.selects "GuidePlans" ({ cls := "GuidePlans", name := "requireQuarters", desc := "(I)V" } : Jvm.MethodName) ({ cls := "GuidePlans", name := "requireQuarters", desc := "(I)V" } : Jvm.MethodName)) ∈ gw := gw_0 17 rfl rfl
theorem w0_18 : (Jvm.Cond.selects "GuidePlans" ({ cls := "GuidePlans", name := "requireTask", desc := "(I)V" } : Jvm.MethodName) ({ cls := "GuidePlans", name := "requireTask", desc := "(I)V" } : Jvm.MethodName)) ∈ gw := gw_0 18 rfl rfl
theorem w0_19 : (Jvm.Cond.selects "GuidePlans" ({ cls := "GuidePlans", name := "requirePlan", desc := "()V" } : Jvm.MethodName) ({ cls := "GuidePlans", name := "requirePlan", desc := "()V" } : Jvm.MethodName)) ∈ gw := gw_0 19 rfl rfl
theorem w0_20 : (Jvm.Cond.selects "GuidePlans" ({ cls := "GuidePlans", name := "noteChanges", desc := "()V" } : Jvm.MethodName) ({ cls := "GuidePlans", name := "noteChanges", desc := "()V" } : Jvm.MethodName)) ∈ gw := gw_0 20 rfl rfl
theorem w0_21 : (Jvm.Cond.selects "GuidePlans" ({ cls := "GuidePlans", name := "empties", desc := "(II)Z" } : Jvm.MethodName) ({ cls := "GuidePlans", name := "empties", desc := "(II)Z" } : Jvm.MethodName)) ∈ gw := gw_0 21 rfl rfl
theorem w0_22 : (Jvm.Cond.selects "GuidePlans" ({ cls := "GuidePlans", name := "isUnsuited", desc := "(II)Z" } : Jvm.MethodName) ({ cls := "GuidePlans", name := "isUnsuited", desc := "(II)Z" } : Jvm.MethodName)) ∈ gw := gw_0 22 rfl rfl
theorem w0_23 : (Jvm.Cond.selects "GuidePlans" ({ cls := "GuidePlans", name := "faultOfSets", desc := "(II)I" } : Jvm.MethodName) ({ cls := "GuidePlans", name := "faultOfSets", desc := "(II)I" } : Jvm.MethodName)) ∈ gw := gw_0 23 rfl rfl
theorem w0_24 : (Jvm.Cond.selects "GuidePlans" ({ cls := "GuidePlans", name := "hasTasksTooNear", desc := "(I)Z" } : Jvm.MethodName) ({ cls := "GuidePlans", name := "hasTasksTooNear", desc := "(I)Z" } : Jvm.MethodName)) ∈ gw := gw_0 24 rfl rfl
theorem w0_25 : (Jvm.Cond.selects "GuidePlans" ({ cls := "GuidePlans", name := "worksTooLong", desc := "(I)Z" } : Jvm.MethodName) ({ cls := "GuidePlans", name := "worksTooLong", desc := "(I)Z" } : Jvm.MethodName)) ∈ gw := gw_0 25 rfl rfl
theorem w0_26 : (Jvm.Cond.selects "GuidePlans" ({ cls := "GuidePlans", name := "quartersOf", desc := "(I)I" } : Jvm.MethodName) ({ cls := "GuidePlans", name := "quartersOf", desc := "(I)I" } : Jvm.MethodName)) ∈ gw := gw_0 26 rfl rfl
theorem w0_27 : (Jvm.Cond.selects "GuidePlansModel" ({ cls := "GuidePlansModel", name := "goes", desc := "(ZZZ)Z" } : Jvm.MethodName) ({ cls := "GuidePlansModel", name := "goes", desc := "(ZZZ)Z" } : Jvm.MethodName)) ∈ gw := gw_0 27 rfl rfl
theorem w0_28 : (Jvm.Cond.selects "GuidePlansModel" ({ cls := "GuidePlansModel", name := "isPerson", desc := "(I)Z" } : Jvm.MethodName) ({ cls := "GuidePlansModel", name := "isPerson", desc := "(I)Z" } : Jvm.MethodName)) ∈ gw := gw_0 28 rfl rfl
theorem w0_29 : (Jvm.Cond.selects "GuidePlansModel" ({ cls := "GuidePlansModel", name := "leave", desc := "(III)V" } : Jvm.MethodName) ({ cls := "GuidePlansModel", name := "leave", desc := "(III)V" } : Jvm.MethodName)) ∈ gw := gw_0 29 rfl rfl
theorem w0_30 : (Jvm.Cond.selects "GuidePlansModel" ({ cls := "GuidePlansModel", name := "seek", desc := "(Z)V" } : Jvm.MethodName) ({ cls := "GuidePlansModel", name := "seek", desc := "(Z)V" } : Jvm.MethodName)) ∈ gw := gw_0 30 rfl rfl
theorem w0_31 : (Jvm.Cond.selects "GuidePlansModel" ({ cls := "GuidePlansModel", name := "may", desc := "()Z" } : Jvm.MethodName) ({ cls := "GuidePlansModel", name := "may", desc := "()Z" } : Jvm.MethodName)) ∈ gw := gw_0 31 rfl rfl
theorem w0_32 : (Jvm.Cond.selects "GuidePlansModel" ({ cls := "GuidePlansModel", name := "suits", desc := "(II)Z" } : Jvm.MethodName) ({ cls := "GuidePlansModel", name := "suits", desc := "(II)Z" } : Jvm.MethodName)) ∈ gw := gw_0 32 rfl rfl
theorem w0_33 : (Jvm.Cond.selects "GuidePlansModel" ({ cls := "GuidePlansModel", name := "quarters", desc := "(I)I" } : Jvm.MethodName) ({ cls := "GuidePlansModel", name := "quarters", desc := "(I)I" } : Jvm.MethodName)) ∈ gw := gw_0 33 rfl rfl
theorem w0_34 : (Jvm.Cond.selects "GuidePlansModel" ({ cls := "GuidePlansModel", name := "hasNear", desc := "(I)Z" } : Jvm.MethodName) ({ cls := "GuidePlansModel", name := "hasNear", desc := "(I)Z" } : Jvm.MethodName)) ∈ gw := gw_0 34 rfl rfl
theorem w0_35 : (Jvm.Cond.selects "GuidePlansModel" ({ cls := "GuidePlansModel", name := "isNear", desc := "(II)Z" } : Jvm.MethodName) ({ cls := "GuidePlansModel", name := "isNear", desc := "(II)Z" } : Jvm.MethodName)) ∈ gw := gw_0 35 rfl rfl
theorem w0_36 : (Jvm.Cond.selects "GuidePlansModel" ({ cls := "GuidePlansModel", name := "full", desc := "()I" } : Jvm.MethodName) ({ cls := "GuidePlansModel", name := "full", desc := "()I" } : Jvm.MethodName)) ∈ gw := gw_0 36 rfl rfl
theorem w0_37 : (Jvm.Cond.selects "GuidePlansModel" ({ cls := "GuidePlansModel", name := "differences", desc := "()I" } : Jvm.MethodName) ({ cls := "GuidePlansModel", name := "differences", desc := "()I" } : Jvm.MethodName)) ∈ gw := gw_0 37 rfl rfl
theorem w0_38 : (Jvm.Cond.selects "GuidePlansModel" ({ cls := "GuidePlansModel", name := "costOf", desc := "()I" } : Jvm.MethodName) ({ cls := "GuidePlansModel", name := "costOf", desc := "()I" } : Jvm.MethodName)) ∈ gw := gw_0 38 rfl rfl
theorem w0_39 : (Jvm.Cond.selects "GuidePlansModel" ({ cls := "GuidePlansModel", name := "keep", desc := "(I)V" } : Jvm.MethodName) ({ cls := "GuidePlansModel", name := "keep", desc := "(I)V" } : Jvm.MethodName)) ∈ gw := gw_0 39 rfl rfl
theorem w0_40 : (Jvm.Cond.selects "GuidePlansModel" ({ cls := "GuidePlansModel", name := "tell", desc := "()V" } : Jvm.MethodName) ({ cls := "GuidePlansModel", name := "tell", desc := "()V" } : Jvm.MethodName)) ∈ gw := gw_0 40 rfl rfl
theorem w0_41 : (Jvm.Cond.selects "GuidePlansModel" ({ cls := "GuidePlansModel", name := "isTask", desc := "(I)Z" } : Jvm.MethodName) ({ cls := "GuidePlansModel", name := "isTask", desc := "(I)Z" } : Jvm.MethodName)) ∈ gw := gw_0 41 rfl rfl
theorem w0_42 : (Jvm.Cond.selects "GuidePlansModel" ({ cls := "GuidePlansModel", name := "tryPlan", desc := "()V" } : Jvm.MethodName) ({ cls := "GuidePlansModel", name := "tryPlan", desc := "()V" } : Jvm.MethodName)) ∈ gw := gw_0 42 rfl rfl
theorem w0_43 : (Jvm.Cond.selects "GuidePlansModel" ({ cls := "GuidePlansModel", name := "isEmptied", desc := "(II)Z" } : Jvm.MethodName) ({ cls := "GuidePlansModel", name := "isEmptied", desc := "(II)Z" } : Jvm.MethodName)) ∈ gw := gw_0 43 rfl rfl
theorem w0_44 : (Jvm.Cond.selects "GuidePlansModel" ({ cls := "GuidePlansModel", name := "isUnfit", desc := "(II)Z" } : Jvm.MethodName) ({ cls := "GuidePlansModel", name := "isUnfit", desc := "(II)Z" } : Jvm.MethodName)) ∈ gw := gw_0 44 rfl rfl
theorem i_G : ∀ w ∈ u_ws R_G T_G 8, w ∈ gw := fun w h => List.mem_filter.mpr (by revert w; decide +kernel)
theorem i_D : ∀ w ∈ u_ws R_D T_D 13, w ∈ gw := fun w h => List.mem_filter.mpr (by revert w; decide +kernel)
theorem i_S : ∀ w ∈ u_ws R_S T_S 9, w ∈ gw := fun w h => List.mem_filter.mpr (by revert w; decide +kernel)
theorem i_M : ∀ w ∈ u_ws R_M T_M 27, w ∈ gw := fun w h => List.mem_filter.mpr (by revert w; decide +kernel)
end
section
theorem d_D_init_0 : decode b_D_init 0 = .ok (.aload_n 0, 1) := by decide +kernel
theorem d_D_init_1 : decode b_D_init 1 = .ok (.invokespecial 3, 3) := by decide +kernel
theorem d_D_init_4 : decode b_D_init 4 = .ok (.aload_n 0, 1) := by decide +kernel
theorem d_D_init_5 : decode b_D_init 5 = .ok (.iconst 4, 1) := by decide +kernel
theorem d_D_init_6 : decode b_D_init 6 = .ok (.newarray .int, 2) := by decide +kernel
theorem d_D_init_8 : decode b_D_init 8 = .ok (.putfield 9, 3) := by decide +kernel
theorem d_D_init_11 : decode b_D_init 11 = .ok (.aload_n 0, 1) := by decide +kernel
theorem d_D_init_12 : decode b_D_init 12 = .ok (.bipush 20, 2) := by decide +kernel
theorem d_D_init_14 : decode b_D_init 14 = .ok (.newarray .int, 2) := by decide +kernel
theorem d_D_init_16 : decode b_D_init 16 = .ok (.putfield 15, 3) := by decide +kernel
theorem d_D_init_19 : decode b_D_init 19 = .ok (.aload_n 0, 1) := by decide +kernel
theorem d_D_init_20 : decode b_D_init 20 = .ok (.bipush 20, 2) := by decide +kernel
theorem d_D_init_22 : decode b_D_init 22 = .ok (.newarray .int, 2) := by decide +kernel
theorem d_D_init_24 : decode b_D_init 24 = .ok (.putfield 18, 3) := by decide +kernel
theorem d_D_init_27 : decode b_D_init 27 = .ok (.aload_n 0, 1) := by decide +kernel
theorem d_D_init_28 : decode b_D_init 28 = .ok (.bipush 20, 2) := by decide +kernel
theorem d_D_init_30 : decode b_D_init 30 = .ok (.newarray .int, 2) := by decide +kernel
theorem d_D_init_32 : decode b_D_init 32 = .ok (.putfield 21, 3) := by decide +kernel
theorem d_D_init_35 : decode b_D_init 35 = .ok (.aload_n 0, 1) := by decide +kernel
theorem d_D_init_36 : decode b_D_init 36 = .ok (.bipush 6, 2) := by decide +kernel
theorem d_D_init_38 : decode b_D_init 38 = .ok (.newarray .int, 2) := by decide +kernel
theorem d_D_init_40 : decode b_D_init 40 = .ok (.putfield 24, 3) := by decide +kernel
theorem d_D_init_43 : decode b_D_init 43 = .ok (.aload_n 0, 1) := by decide +kernel
theorem d_D_init_44 : decode b_D_init 44 = .ok (.bipush 6, 2) := by decide +kernel
theorem d_D_init_46 : decode b_D_init 46 = .ok (.newarray .int, 2) := by decide +kernel
theorem d_D_init_48 : decode b_D_init 48 = .ok (.putfield 27, 3) := by decide +kernel
theorem d_D_init_51 : decode b_D_init 51 = .ok (.aload_n 0, 1) := by decide +kernel
theorem d_D_init_52 : decode b_D_init 52 = .ok (.bipush 6, 2) := by decide +kernel
theorem d_D_init_54 : decode b_D_init 54 = .ok (.newarray .int, 2) := by decide +kernel
theorem d_D_init_56 : decode b_D_init 56 = .ok (.putfield 30, 3) := by decide +kernel
theorem d_D_init_59 : decode b_D_init 59 = .ok (.aload_n 0, 1) := by decide +kernel
theorem d_D_init_60 : decode b_D_init 60 = .ok (.bipush 6, 2) := by decide +kernel
theorem d_D_init_62 : decode b_D_init 62 = .ok (.newarray .boolean, 2) := by decide +kernel
theorem d_D_init_64 : decode b_D_init 64 = .ok (.putfield 33, 3) := by decide +kernel
theorem d_D_init_67 : decode b_D_init 67 = .ok (.aload_n 0, 1) := by decide +kernel
theorem d_D_init_68 : decode b_D_init 68 = .ok (.iconst 0, 1) := by decide +kernel
theorem d_D_init_69 : decode b_D_init 69 = .ok (.putfield 37, 3) := by decide +kernel
theorem d_D_init_72 : decode b_D_init 72 = .ok (.aload_n 0, 1) := by decide +kernel
theorem d_D_init_73 : decode b_D_init 73 = .ok (.iconst 0, 1) := by decide +kernel
theorem d_D_init_74 : decode b_D_init 74 = .ok (.putfield 41, 3) := by decide +kernel
theorem d_D_init_77 : decode b_D_init 77 = .ok (.aload_n 0, 1) := by decide +kernel
theorem d_D_init_78 : decode b_D_init 78 = .ok (.iconst 0, 1) := by decide +kernel
theorem d_D_init_79 : decode b_D_init 79 = .ok (.putfield 44, 3) := by decide +kernel
theorem d_D_init_82 : decode b_D_init 82 = .ok (.aload_n 0, 1) := by decide +kernel
theorem d_D_init_83 : decode b_D_init 83 = .ok (.iconst 0, 1) := by decide +kernel
theorem d_D_init_84 : decode b_D_init 84 = .ok (.putfield 47, 3) := by decide +kernel
theorem d_D_init_87 : decode b_D_init 87 = .ok (.aload_n 0, 1) := by decide +kernel
theorem d_D_init_88 : decode b_D_init 88 = .ok (.bipush 96, 2) := by decide +kernel
theorem d_D_init_90 : decode b_D_init 90 = .ok (.putfield 50, 3) := by decide +kernel
theorem d_D_init_93 : decode b_D_init 93 = .ok (.return_, 1) := by decide +kernel
theorem d_D_hasPerson_0 : decode b_D_hasPerson 0 = .ok (.iload_n 1, 1) := by decide +kernel
theorem d_D_hasPerson_1 : decode b_D_hasPerson 1 = .ok (.ifCond .lt (15), 3) := by decide +kernel
theorem d_D_hasPerson_4 : decode b_D_hasPerson 4 = .ok (.iload_n 1, 1) := by decide +kernel
theorem d_D_hasPerson_5 : decode b_D_hasPerson 5 = .ok (.aload_n 0, 1) := by decide +kernel
theorem d_D_hasPerson_6 : decode b_D_hasPerson 6 = .ok (.getfield 37, 3) := by decide +kernel
theorem d_D_hasPerson_9 : decode b_D_hasPerson 9 = .ok (.if_icmp .ge (7), 3) := by decide +kernel
theorem d_D_hasPerson_12 : decode b_D_hasPerson 12 = .ok (.iconst 1, 1) := by decide +kernel
theorem d_D_hasPerson_13 : decode b_D_hasPerson 13 = .ok (.goto (4), 3) := by decide +kernel
theorem d_D_hasPerson_16 : decode b_D_hasPerson 16 = .ok (.iconst 0, 1) := by decide +kernel
theorem d_D_hasPerson_17 : decode b_D_hasPerson 17 = .ok (.ireturn, 1) := by decide +kernel
theorem d_D_hasTask_0 : decode b_D_hasTask 0 = .ok (.iload_n 1, 1) := by decide +kernel
theorem d_D_hasTask_1 : decode b_D_hasTask 1 = .ok (.ifCond .lt (15), 3) := by decide +kernel
theorem d_D_hasTask_4 : decode b_D_hasTask 4 = .ok (.iload_n 1, 1) := by decide +kernel
theorem d_D_hasTask_5 : decode b_D_hasTask 5 = .ok (.aload_n 0, 1) := by decide +kernel
theorem d_D_hasTask_6 : decode b_D_hasTask 6 = .ok (.getfield 44, 3) := by decide +kernel
theorem d_D_hasTask_9 : decode b_D_hasTask 9 = .ok (.if_icmp .ge (7), 3) := by decide +kernel
theorem d_D_hasTask_12 : decode b_D_hasTask 12 = .ok (.iconst 1, 1) := by decide +kernel
theorem d_D_hasTask_13 : decode b_D_hasTask 13 = .ok (.goto (4), 3) := by decide +kernel
theorem d_D_hasTask_16 : decode b_D_hasTask 16 = .ok (.iconst 0, 1) := by decide +kernel
theorem d_D_hasTask_17 : decode b_D_hasTask 17 = .ok (.ireturn, 1) := by decide +kernel
theorem d_D_addPerson_0 : decode b_D_addPerson 0 = .ok (.aload_n 0, 1) := by decide +kernel
theorem d_D_addPerson_1 : decode b_D_addPerson 1 = .ok (.getfield 37, 3) := by decide +kernel
theorem d_D_addPerson_4 : decode b_D_addPerson 4 = .ok (.iconst 4, 1) := by decide +kernel
theorem d_D_addPerson_5 : decode b_D_addPerson 5 = .ok (.if_icmp .lt (5), 3) := by decide +kernel
theorem d_D_addPerson_8 : decode b_D_addPerson 8 = .ok (.iconst (-1), 1) := by decide +kernel
theorem d_D_addPerson_9 : decode b_D_addPerson 9 = .ok (.ireturn, 1) := by decide +kernel
theorem d_D_addPerson_10 : decode b_D_addPerson 10 = .ok (.aload_n 0, 1) := by decide +kernel
theorem d_D_addPerson_11 : decode b_D_addPerson 11 = .ok (.getfield 9, 3) := by decide +kernel
theorem d_D_addPerson_14 : decode b_D_addPerson 14 = .ok (.aload_n 0, 1) := by decide +kernel
theorem d_D_addPerson_15 : decode b_D_addPerson 15 = .ok (.getfield 37, 3) := by decide +kernel
theorem d_D_addPerson_18 : decode b_D_addPerson 18 = .ok (.iload_n 1, 1) := by decide +kernel
theorem d_D_addPerson_19 : decode b_D_addPerson 19 = .ok (.iastore, 1) := by decide +kernel
theorem d_D_addPerson_20 : decode b_D_addPerson 20 = .ok (.aload_n 0, 1) := by decide +kernel
theorem d_D_addPerson_21 : decode b_D_addPerson 21 = .ok (.dup, 1) := by decide +kernel
theorem d_D_addPerson_22 : decode b_D_addPerson 22 = .ok (.getfield 37, 3) := by decide +kernel
theorem d_D_addPerson_25 : decode b_D_addPerson 25 = .ok (.iconst 1, 1) := by decide +kernel
theorem d_D_addPerson_26 : decode b_D_addPerson 26 = .ok (.iadd, 1) := by decide +kernel
theorem d_D_addPerson_27 : decode b_D_addPerson 27 = .ok (.putfield 37, 3) := by decide +kernel
theorem d_D_addPerson_30 : decode b_D_addPerson 30 = .ok (.aload_n 0, 1) := by decide +kernel
theorem d_D_addPerson_31 : decode b_D_addPerson 31 = .ok (.getfield 37, 3) := by decide +kernel
theorem d_D_addPerson_34 : decode b_D_addPerson 34 = .ok (.iconst 1, 1) := by decide +kernel
theorem d_D_addPerson_35 : decode b_D_addPerson 35 = .ok (.isub, 1) := by decide +kernel
theorem d_D_addPerson_36 : decode b_D_addPerson 36 = .ok (.ireturn, 1) := by decide +kernel
theorem d_D_addSpan_0 : decode b_D_addSpan 0 = .ok (.aload_n 0, 1) := by decide +kernel
theorem d_D_addSpan_1 : decode b_D_addSpan 1 = .ok (.getfield 41, 3) := by decide +kernel
theorem d_D_addSpan_4 : decode b_D_addSpan 4 = .ok (.bipush 20, 2) := by decide +kernel
theorem d_D_addSpan_6 : decode b_D_addSpan 6 = .ok (.if_icmp .lt (4), 3) := by decide +kernel
theorem d_D_addSpan_9 : decode b_D_addSpan 9 = .ok (.return_, 1) := by decide +kernel
theorem d_D_addSpan_10 : decode b_D_addSpan 10 = .ok (.aload_n 0, 1) := by decide +kernel
theorem d_D_addSpan_11 : decode b_D_addSpan 11 = .ok (.getfield 15, 3) := by decide +kernel
theorem d_D_addSpan_14 : decode b_D_addSpan 14 = .ok (.aload_n 0, 1) := by decide +kernel
theorem d_D_addSpan_15 : decode b_D_addSpan 15 = .ok (.getfield 41, 3) := by decide +kernel
theorem d_D_addSpan_18 : decode b_D_addSpan 18 = .ok (.iload_n 1, 1) := by decide +kernel
theorem d_D_addSpan_19 : decode b_D_addSpan 19 = .ok (.iastore, 1) := by decide +kernel
theorem d_D_addSpan_20 : decode b_D_addSpan 20 = .ok (.aload_n 0, 1) := by decide +kernel
theorem d_D_addSpan_21 : decode b_D_addSpan 21 = .ok (.getfield 18, 3) := by decide +kernel
theorem d_D_addSpan_24 : decode b_D_addSpan 24 = .ok (.aload_n 0, 1) := by decide +kernel
theorem d_D_addSpan_25 : decode b_D_addSpan 25 = .ok (.getfield 41, 3) := by decide +kernel
theorem d_D_addSpan_28 : decode b_D_addSpan 28 = .ok (.iload_n 2, 1) := by decide +kernel
theorem d_D_addSpan_29 : decode b_D_addSpan 29 = .ok (.iastore, 1) := by decide +kernel
theorem d_D_addSpan_30 : decode b_D_addSpan 30 = .ok (.aload_n 0, 1) := by decide +kernel
theorem d_D_addSpan_31 : decode b_D_addSpan 31 = .ok (.getfield 21, 3) := by decide +kernel
theorem d_D_addSpan_34 : decode b_D_addSpan 34 = .ok (.aload_n 0, 1) := by decide +kernel
theorem d_D_addSpan_35 : decode b_D_addSpan 35 = .ok (.getfield 41, 3) := by decide +kernel
theorem d_D_addSpan_38 : decode b_D_addSpan 38 = .ok (.iload_n 3, 1) := by decide +kernel
theorem d_D_addSpan_39 : decode b_D_addSpan 39 = .ok (.iastore, 1) := by decide +kernel
theorem d_D_addSpan_40 : decode b_D_addSpan 40 = .ok (.aload_n 0, 1) := by decide +kernel
theorem d_D_addSpan_41 : decode b_D_addSpan 41 = .ok (.dup, 1) := by decide +kernel
theorem d_D_addSpan_42 : decode b_D_addSpan 42 = .ok (.getfield 41, 3) := by decide +kernel
theorem d_D_addSpan_45 : decode b_D_addSpan 45 = .ok (.iconst 1, 1) := by decide +kernel
theorem d_D_addSpan_46 : decode b_D_addSpan 46 = .ok (.iadd, 1) := by decide +kernel
theorem d_D_addSpan_47 : decode b_D_addSpan 47 = .ok (.putfield 41, 3) := by decide +kernel
theorem d_D_addSpan_50 : decode b_D_addSpan 50 = .ok (.return_, 1) := by decide +kernel
theorem d_D_dropLatestSpan_0 : decode b_D_dropLatestSpan 0 = .ok (.aload_n 0, 1) := by decide +kernel
theorem d_D_dropLatestSpan_1 : decode b_D_dropLatestSpan 1 = .ok (.getfield 41, 3) := by decide +kernel
theorem d_D_dropLatestSpan_4 : decode b_D_dropLatestSpan 4 = .ok (.ifCond .le (13), 3) := by decide +kernel
theorem d_D_dropLatestSpan_7 : decode b_D_dropLatestSpan 7 = .ok (.aload_n 0, 1) := by decide +kernel
theorem d_D_dropLatestSpan_8 : decode b_D_dropLatestSpan 8 = .ok (.dup, 1) := by decide +kernel
theorem d_D_dropLatestSpan_9 : decode b_D_dropLatestSpan 9 = .ok (.getfield 41, 3) := by decide +kernel
theorem d_D_dropLatestSpan_12 : decode b_D_dropLatestSpan 12 = .ok (.iconst 1, 1) := by decide +kernel
theorem d_D_dropLatestSpan_13 : decode b_D_dropLatestSpan 13 = .ok (.isub, 1) := by decide +kernel
theorem d_D_dropLatestSpan_14 : decode b_D_dropLatestSpan 14 = .ok (.putfield 41, 3) := by decide +kernel
theorem d_D_dropLatestSpan_17 : decode b_D_dropLatestSpan 17 = .ok (.return_, 1) := by decide +kernel
theorem d_D_addTask_0 : decode b_D_addTask 0 = .ok (.aload_n 0, 1) := by decide +kernel
theorem d_D_addTask_1 : decode b_D_addTask 1 = .ok (.getfield 44, 3) := by decide +kernel
theorem d_D_addTask_4 : decode b_D_addTask 4 = .ok (.bipush 6, 2) := by decide +kernel
theorem d_D_addTask_6 : decode b_D_addTask 6 = .ok (.if_icmp .lt (5), 3) := by decide +kernel
theorem d_D_addTask_9 : decode b_D_addTask 9 = .ok (.iconst (-1), 1) := by decide +kernel
theorem d_D_addTask_10 : decode b_D_addTask 10 = .ok (.ireturn, 1) := by decide +kernel
theorem d_D_addTask_11 : decode b_D_addTask 11 = .ok (.aload_n 0, 1) := by decide +kernel
theorem d_D_addTask_12 : decode b_D_addTask 12 = .ok (.getfield 24, 3) := by decide +kernel
theorem d_D_addTask_15 : decode b_D_addTask 15 = .ok (.aload_n 0, 1) := by decide +kernel
theorem d_D_addTask_16 : decode b_D_addTask 16 = .ok (.getfield 44, 3) := by decide +kernel
theorem d_D_addTask_19 : decode b_D_addTask 19 = .ok (.iload_n 1, 1) := by decide +kernel
theorem d_D_addTask_20 : decode b_D_addTask 20 = .ok (.iastore, 1) := by decide +kernel
theorem d_D_addTask_21 : decode b_D_addTask 21 = .ok (.aload_n 0, 1) := by decide +kernel
theorem d_D_addTask_22 : decode b_D_addTask 22 = .ok (.getfield 27, 3) := by decide +kernel
theorem d_D_addTask_25 : decode b_D_addTask 25 = .ok (.aload_n 0, 1) := by decide +kernel
theorem d_D_addTask_26 : decode b_D_addTask 26 = .ok (.getfield 44, 3) := by decide +kernel
theorem d_D_addTask_29 : decode b_D_addTask 29 = .ok (.iload_n 2, 1) := by decide +kernel
theorem d_D_addTask_30 : decode b_D_addTask 30 = .ok (.iastore, 1) := by decide +kernel
theorem d_D_addTask_31 : decode b_D_addTask 31 = .ok (.aload_n 0, 1) := by decide +kernel
theorem d_D_addTask_32 : decode b_D_addTask 32 = .ok (.getfield 30, 3) := by decide +kernel
theorem d_D_addTask_35 : decode b_D_addTask 35 = .ok (.aload_n 0, 1) := by decide +kernel
theorem d_D_addTask_36 : decode b_D_addTask 36 = .ok (.getfield 44, 3) := by decide +kernel
theorem d_D_addTask_39 : decode b_D_addTask 39 = .ok (.iload_n 3, 1) := by decide +kernel
theorem d_D_addTask_40 : decode b_D_addTask 40 = .ok (.iastore, 1) := by decide +kernel
theorem d_D_addTask_41 : decode b_D_addTask 41 = .ok (.aload_n 0, 1) := by decide +kernel
theorem d_D_addTask_42 : decode b_D_addTask 42 = .ok (.getfield 33, 3) := by decide +kernel
theorem d_D_addTask_45 : decode b_D_addTask 45 = .ok (.aload_n 0, 1) := by decide +kernel
theorem d_D_addTask_46 : decode b_D_addTask 46 = .ok (.getfield 44, 3) := by decide +kernel
theorem d_D_addTask_49 : decode b_D_addTask 49 = .ok (.iload 4, 2) := by decide +kernel
theorem d_D_addTask_51 : decode b_D_addTask 51 = .ok (.bastore, 1) := by decide +kernel
theorem d_D_addTask_52 : decode b_D_addTask 52 = .ok (.aload_n 0, 1) := by decide +kernel
theorem d_D_addTask_53 : decode b_D_addTask 53 = .ok (.dup, 1) := by decide +kernel
theorem d_D_addTask_54 : decode b_D_addTask 54 = .ok (.getfield 44, 3) := by decide +kernel
theorem d_D_addTask_57 : decode b_D_addTask 57 = .ok (.iconst 1, 1) := by decide +kernel
theorem d_D_addTask_58 : decode b_D_addTask 58 = .ok (.iadd, 1) := by decide +kernel
theorem d_D_addTask_59 : decode b_D_addTask 59 = .ok (.putfield 44, 3) := by decide +kernel
theorem d_D_addTask_62 : decode b_D_addTask 62 = .ok (.aload_n 0, 1) := by decide +kernel
theorem d_D_addTask_63 : decode b_D_addTask 63 = .ok (.getfield 44, 3) := by decide +kernel
theorem d_D_addTask_66 : decode b_D_addTask 66 = .ok (.iconst 1, 1) := by decide +kernel
theorem d_D_addTask_67 : decode b_D_addTask 67 = .ok (.isub, 1) := by decide +kernel
theorem d_D_addTask_68 : decode b_D_addTask 68 = .ok (.ireturn, 1) := by decide +kernel
theorem d_D_lengthOf_0 : decode b_D_lengthOf 0 = .ok (.aload_n 0, 1) := by decide +kernel
theorem d_D_lengthOf_1 : decode b_D_lengthOf 1 = .ok (.iload_n 1, 1) := by decide +kernel
theorem d_D_lengthOf_2 : decode b_D_lengthOf 2 = .ok (.invokevirtual 53, 3) := by decide +kernel
theorem d_D_lengthOf_5 : decode b_D_lengthOf 5 = .ok (.ifCond .eq (19), 3) := by decide +kernel
theorem d_D_lengthOf_8 : decode b_D_lengthOf 8 = .ok (.aload_n 0, 1) := by decide +kernel
theorem d_D_lengthOf_9 : decode b_D_lengthOf 9 = .ok (.getfield 30, 3) := by decide +kernel
theorem d_D_lengthOf_12 : decode b_D_lengthOf 12 = .ok (.iload_n 1, 1) := by decide +kernel
theorem d_D_lengthOf_13 : decode b_D_lengthOf 13 = .ok (.iaload, 1) := by decide +kernel
theorem d_D_lengthOf_14 : decode b_D_lengthOf 14 = .ok (.aload_n 0, 1) := by decide +kernel
theorem d_D_lengthOf_15 : decode b_D_lengthOf 15 = .ok (.getfield 27, 3) := by decide +kernel
theorem d_D_lengthOf_18 : decode b_D_lengthOf 18 = .ok (.iload_n 1, 1) := by decide +kernel
theorem d_D_lengthOf_19 : decode b_D_lengthOf 19 = .ok (.iaload, 1) := by decide +kernel
theorem d_D_lengthOf_20 : decode b_D_lengthOf 20 = .ok (.isub, 1) := by decide +kernel
theorem d_D_lengthOf_21 : decode b_D_lengthOf 21 = .ok (.goto (4), 3) := by decide +kernel
theorem d_D_lengthOf_24 : decode b_D_lengthOf 24 = .ok (.iconst 0, 1) := by decide +kernel
theorem d_D_lengthOf_25 : decode b_D_lengthOf 25 = .ok (.ireturn, 1) := by decide +kernel
theorem d_D_suits_0 : decode b_D_suits 0 = .ok (.aload_n 0, 1) := by decide +kernel
theorem d_D_suits_1 : decode b_D_suits 1 = .ok (.iload_n 1, 1) := by decide +kernel
theorem d_D_suits_2 : decode b_D_suits 2 = .ok (.invokevirtual 57, 3) := by decide +kernel
theorem d_D_suits_5 : decode b_D_suits 5 = .ok (.ifCond .eq (11), 3) := by decide +kernel
theorem d_D_suits_8 : decode b_D_suits 8 = .ok (.aload_n 0, 1) := by decide +kernel
theorem d_D_suits_9 : decode b_D_suits 9 = .ok (.iload_n 2, 1) := by decide +kernel
theorem d_D_suits_10 : decode b_D_suits 10 = .ok (.invokevirtual 53, 3) := by decide +kernel
theorem d_D_suits_13 : decode b_D_suits 13 = .ok (.ifCond .ne (5), 3) := by decide +kernel
theorem d_D_suits_16 : decode b_D_suits 16 = .ok (.iconst 0, 1) := by decide +kernel
theorem d_D_suits_17 : decode b_D_suits 17 = .ok (.ireturn, 1) := by decide +kernel
theorem d_D_suits_18 : decode b_D_suits 18 = .ok (.aload_n 0, 1) := by decide +kernel
theorem d_D_suits_19 : decode b_D_suits 19 = .ok (.getfield 9, 3) := by decide +kernel
theorem d_D_suits_22 : decode b_D_suits 22 = .ok (.iload_n 1, 1) := by decide +kernel
theorem d_D_suits_23 : decode b_D_suits 23 = .ok (.iaload, 1) := by decide +kernel
theorem d_D_suits_24 : decode b_D_suits 24 = .ok (.aload_n 0, 1) := by decide +kernel
theorem d_D_suits_25 : decode b_D_suits 25 = .ok (.getfield 24, 3) := by decide +kernel
theorem d_D_suits_28 : decode b_D_suits 28 = .ok (.iload_n 2, 1) := by decide +kernel
theorem d_D_suits_29 : decode b_D_suits 29 = .ok (.iaload, 1) := by decide +kernel
theorem d_D_suits_30 : decode b_D_suits 30 = .ok (.ishr, 1) := by decide +kernel
theorem d_D_suits_31 : decode b_D_suits 31 = .ok (.iconst 1, 1) := by decide +kernel
theorem d_D_suits_32 : decode b_D_suits 32 = .ok (.iand, 1) := by decide +kernel
theorem d_D_suits_33 : decode b_D_suits 33 = .ok (.ifCond .eq (16), 3) := by decide +kernel
theorem d_D_suits_36 : decode b_D_suits 36 = .ok (.aload_n 0, 1) := by decide +kernel
theorem d_D_suits_37 : decode b_D_suits 37 = .ok (.iload_n 1, 1) := by decide +kernel
theorem d_D_suits_38 : decode b_D_suits 38 = .ok (.iload_n 2, 1) := by decide +kernel
theorem d_D_suits_39 : decode b_D_suits 39 = .ok (.invokevirtual 60, 3) := by decide +kernel
theorem d_D_suits_42 : decode b_D_suits 42 = .ok (.ifCond .ne (7), 3) := by decide +kernel
theorem d_D_suits_45 : decode b_D_suits 45 = .ok (.iconst 1, 1) := by decide +kernel
theorem d_D_suits_46 : decode b_D_suits 46 = .ok (.goto (4), 3) := by decide +kernel
theorem d_D_suits_49 : decode b_D_suits 49 = .ok (.iconst 0, 1) := by decide +kernel
theorem d_D_suits_50 : decode b_D_suits 50 = .ok (.ireturn, 1) := by decide +kernel
theorem d_D_isOffIn_0 : decode b_D_isOffIn 0 = .ok (.iconst 0, 1) := by decide +kernel
theorem d_D_isOffIn_1 : decode b_D_isOffIn 1 = .ok (.istore_n 3, 1) := by decide +kernel
theorem d_D_isOffIn_2 : decode b_D_isOffIn 2 = .ok (.iload_n 3, 1) := by decide +kernel
theorem d_D_isOffIn_3 : decode b_D_isOffIn 3 = .ok (.aload_n 0, 1) := by decide +kernel
theorem d_D_isOffIn_4 : decode b_D_isOffIn 4 = .ok (.getfield 41, 3) := by decide +kernel
theorem d_D_isOffIn_7 : decode b_D_isOffIn 7 = .ok (.if_icmp .ge (51), 3) := by decide +kernel
theorem d_D_isOffIn_10 : decode b_D_isOffIn 10 = .ok (.aload_n 0, 1) := by decide +kernel
theorem d_D_isOffIn_11 : decode b_D_isOffIn 11 = .ok (.getfield 15, 3) := by decide +kernel
theorem d_D_isOffIn_14 : decode b_D_isOffIn 14 = .ok (.iload_n 3, 1) := by decide +kernel
theorem d_D_isOffIn_15 : decode b_D_isOffIn 15 = .ok (.iaload, 1) := by decide +kernel
theorem d_D_isOffIn_16 : decode b_D_isOffIn 16 = .ok (.iload_n 1, 1) := by decide +kernel
theorem d_D_isOffIn_17 : decode b_D_isOffIn 17 = .ok (.if_icmp .ne (35), 3) := by decide +kernel
theorem d_D_isOffIn_20 : decode b_D_isOffIn 20 = .ok (.aload_n 0, 1) := by decide +kernel
theorem d_D_isOffIn_21 : decode b_D_isOffIn 21 = .ok (.getfield 18, 3) := by decide +kernel
theorem d_D_isOffIn_24 : decode b_D_isOffIn 24 = .ok (.iload_n 3, 1) := by decide +kernel
theorem d_D_isOffIn_25 : decode b_D_isOffIn 25 = .ok (.iaload, 1) := by decide +kernel
theorem d_D_isOffIn_26 : decode b_D_isOffIn 26 = .ok (.aload_n 0, 1) := by decide +kernel
theorem d_D_isOffIn_27 : decode b_D_isOffIn 27 = .ok (.getfield 30, 3) := by decide +kernel
theorem d_D_isOffIn_30 : decode b_D_isOffIn 30 = .ok (.iload_n 2, 1) := by decide +kernel
theorem d_D_isOffIn_31 : decode b_D_isOffIn 31 = .ok (.iaload, 1) := by decide +kernel
theorem d_D_isOffIn_32 : decode b_D_isOffIn 32 = .ok (.if_icmp .ge (20), 3) := by decide +kernel
theorem d_D_isOffIn_35 : decode b_D_isOffIn 35 = .ok (.aload_n 0, 1) := by decide +kernel
theorem d_D_isOffIn_36 : decode b_D_isOffIn 36 = .ok (.getfield 27, 3) := by decide +kernel
theorem d_D_isOffIn_39 : decode b_D_isOffIn 39 = .ok (.iload_n 2, 1) := by decide +kernel
theorem d_D_isOffIn_40 : decode b_D_isOffIn 40 = .ok (.iaload, 1) := by decide +kernel
theorem d_D_isOffIn_41 : decode b_D_isOffIn 41 = .ok (.aload_n 0, 1) := by decide +kernel
theorem d_D_isOffIn_42 : decode b_D_isOffIn 42 = .ok (.getfield 21, 3) := by decide +kernel
theorem d_D_isOffIn_45 : decode b_D_isOffIn 45 = .ok (.iload_n 3, 1) := by decide +kernel
theorem d_D_isOffIn_46 : decode b_D_isOffIn 46 = .ok (.iaload, 1) := by decide +kernel
theorem d_D_isOffIn_47 : decode b_D_isOffIn 47 = .ok (.if_icmp .ge (5), 3) := by decide +kernel
theorem d_D_isOffIn_50 : decode b_D_isOffIn 50 = .ok (.iconst 1, 1) := by decide +kernel
theorem d_D_isOffIn_51 : decode b_D_isOffIn 51 = .ok (.ireturn, 1) := by decide +kernel
theorem d_D_isOffIn_52 : decode b_D_isOffIn 52 = .ok (.iinc 3 1, 3) := by decide +kernel
theorem d_D_isOffIn_55 : decode b_D_isOffIn 55 = .ok (.goto (-53), 3) := by decide +kernel
theorem d_D_isOffIn_58 : decode b_D_isOffIn 58 = .ok (.iconst 0, 1) := by decide +kernel
theorem d_D_isOffIn_59 : decode b_D_isOffIn 59 = .ok (.ireturn, 1) := by decide +kernel
theorem d_D_areTooNear_0 : decode b_D_areTooNear 0 = .ok (.aload_n 0, 1) := by decide +kernel
theorem d_D_areTooNear_1 : decode b_D_areTooNear 1 = .ok (.iload_n 1, 1) := by decide +kernel
theorem d_D_areTooNear_2 : decode b_D_areTooNear 2 = .ok (.invokevirtual 53, 3) := by decide +kernel
theorem d_D_areTooNear_5 : decode b_D_areTooNear 5 = .ok (.ifCond .eq (11), 3) := by decide +kernel
theorem d_D_areTooNear_8 : decode b_D_areTooNear 8 = .ok (.aload_n 0, 1) := by decide +kernel
theorem d_D_areTooNear_9 : decode b_D_areTooNear 9 = .ok (.iload_n 2, 1) := by decide +kernel
theorem d_D_areTooNear_10 : decode b_D_areTooNear 10 = .ok (.invokevirtual 53, 3) := by decide +kernel
theorem d_D_areTooNear_13 : decode b_D_areTooNear 13 = .ok (.ifCond .ne (5), 3) := by decide +kernel
theorem d_D_areTooNear_16 : decode b_D_areTooNear 16 = .ok (.iconst 0, 1) := by decide +kernel
theorem d_D_areTooNear_17 : decode b_D_areTooNear 17 = .ok (.ireturn, 1) := by decide +kernel
theorem d_D_areTooNear_18 : decode b_D_areTooNear 18 = .ok (.aload_n 0, 1) := by decide +kernel
theorem d_D_areTooNear_19 : decode b_D_areTooNear 19 = .ok (.getfield 27, 3) := by decide +kernel
theorem d_D_areTooNear_22 : decode b_D_areTooNear 22 = .ok (.iload_n 1, 1) := by decide +kernel
theorem d_D_areTooNear_23 : decode b_D_areTooNear 23 = .ok (.iaload, 1) := by decide +kernel
theorem d_D_areTooNear_24 : decode b_D_areTooNear 24 = .ok (.aload_n 0, 1) := by decide +kernel
theorem d_D_areTooNear_25 : decode b_D_areTooNear 25 = .ok (.getfield 30, 3) := by decide +kernel
theorem d_D_areTooNear_28 : decode b_D_areTooNear 28 = .ok (.iload_n 2, 1) := by decide +kernel
theorem d_D_areTooNear_29 : decode b_D_areTooNear 29 = .ok (.iaload, 1) := by decide +kernel
theorem d_D_areTooNear_30 : decode b_D_areTooNear 30 = .ok (.aload_n 0, 1) := by decide +kernel
theorem d_D_areTooNear_31 : decode b_D_areTooNear 31 = .ok (.getfield 47, 3) := by decide +kernel
theorem d_D_areTooNear_34 : decode b_D_areTooNear 34 = .ok (.iadd, 1) := by decide +kernel
theorem d_D_areTooNear_35 : decode b_D_areTooNear 35 = .ok (.if_icmp .ge (27), 3) := by decide +kernel
theorem d_D_areTooNear_38 : decode b_D_areTooNear 38 = .ok (.aload_n 0, 1) := by decide +kernel
theorem d_D_areTooNear_39 : decode b_D_areTooNear 39 = .ok (.getfield 27, 3) := by decide +kernel
theorem d_D_areTooNear_42 : decode b_D_areTooNear 42 = .ok (.iload_n 2, 1) := by decide +kernel
theorem d_D_areTooNear_43 : decode b_D_areTooNear 43 = .ok (.iaload, 1) := by decide +kernel
theorem d_D_areTooNear_44 : decode b_D_areTooNear 44 = .ok (.aload_n 0, 1) := by decide +kernel
theorem d_D_areTooNear_45 : decode b_D_areTooNear 45 = .ok (.getfield 30, 3) := by decide +kernel
theorem d_D_areTooNear_48 : decode b_D_areTooNear 48 = .ok (.iload_n 1, 1) := by decide +kernel
theorem d_D_areTooNear_49 : decode b_D_areTooNear 49 = .ok (.iaload, 1) := by decide +kernel
theorem d_D_areTooNear_50 : decode b_D_areTooNear 50 = .ok (.aload_n 0, 1) := by decide +kernel
theorem d_D_areTooNear_51 : decode b_D_areTooNear 51 = .ok (.getfield 47, 3) := by decide +kernel
theorem d_D_areTooNear_54 : decode b_D_areTooNear 54 = .ok (.iadd, 1) := by decide +kernel
theorem d_D_areTooNear_55 : decode b_D_areTooNear 55 = .ok (.if_icmp .ge (7), 3) := by decide +kernel
theorem d_D_areTooNear_58 : decode b_D_areTooNear 58 = .ok (.iconst 1, 1) := by decide +kernel
theorem d_D_areTooNear_59 : decode b_D_areTooNear 59 = .ok (.goto (4), 3) := by decide +kernel
theorem d_D_areTooNear_62 : decode b_D_areTooNear 62 = .ok (.iconst 0, 1) := by decide +kernel
theorem d_D_areTooNear_63 : decode b_D_areTooNear 63 = .ok (.ireturn, 1) := by decide +kernel
end
section
theorem d_G_init_0 : decode b_G_init 0 = .ok (.aload_n 0, 1) := by decide +kernel
theorem d_G_init_1 : decode b_G_init 1 = .ok (.invokespecial 1, 3) := by decide +kernel
theorem d_G_init_4 : decode b_G_init 4 = .ok (.aload_n 0, 1) := by decide +kernel
theorem d_G_init_5 : decode b_G_init 5 = .ok (.new 7, 3) := by decide +kernel
theorem d_G_init_8 : decode b_G_init 8 = .ok (.dup, 1) := by decide +kernel
theorem d_G_init_9 : decode b_G_init 9 = .ok (.invokespecial 9, 3) := by decide +kernel
theorem d_G_init_12 : decode b_G_init 12 = .ok (.putfield 10, 3) := by decide +kernel
theorem d_G_init_15 : decode b_G_init 15 = .ok (.aload_n 0, 1) := by decide +kernel
theorem d_G_init_16 : decode b_G_init 16 = .ok (.new 16, 3) := by decide +kernel
theorem d_G_init_19 : decode b_G_init 19 = .ok (.dup, 1) := by decide +kernel
theorem d_G_init_20 : decode b_G_init 20 = .ok (.invokespecial 18, 3) := by decide +kernel
theorem d_G_init_23 : decode b_G_init 23 = .ok (.putfield 19, 3) := by decide +kernel
theorem d_G_init_26 : decode b_G_init 26 = .ok (.aload_n 0, 1) := by decide +kernel
theorem d_G_init_27 : decode b_G_init 27 = .ok (.bipush 6, 2) := by decide +kernel
theorem d_G_init_29 : decode b_G_init 29 = .ok (.newarray .int, 2) := by decide +kernel
theorem d_G_init_31 : decode b_G_init 31 = .ok (.putfield 23, 3) := by decide +kernel
theorem d_G_init_34 : decode b_G_init 34 = .ok (.aload_n 0, 1) := by decide +kernel
theorem d_G_init_35 : decode b_G_init 35 = .ok (.bipush 6, 2) := by decide +kernel
theorem d_G_init_37 : decode b_G_init 37 = .ok (.newarray .int, 2) := by decide +kernel
theorem d_G_init_39 : decode b_G_init 39 = .ok (.putfield 27, 3) := by decide +kernel
theorem d_G_init_42 : decode b_G_init 42 = .ok (.aload_n 0, 1) := by decide +kernel
theorem d_G_init_43 : decode b_G_init 43 = .ok (.iconst 0, 1) := by decide +kernel
theorem d_G_init_44 : decode b_G_init 44 = .ok (.putfield 30, 3) := by decide +kernel
theorem d_G_init_47 : decode b_G_init 47 = .ok (.aload_n 0, 1) := by decide +kernel
theorem d_G_init_48 : decode b_G_init 48 = .ok (.iconst 0, 1) := by decide +kernel
theorem d_G_init_49 : decode b_G_init 49 = .ok (.putfield 34, 3) := by decide +kernel
theorem d_G_init_52 : decode b_G_init 52 = .ok (.aload_n 0, 1) := by decide +kernel
theorem d_G_init_53 : decode b_G_init 53 = .ok (.iconst (-1), 1) := by decide +kernel
theorem d_G_init_54 : decode b_G_init 54 = .ok (.putfield 37, 3) := by decide +kernel
theorem d_G_init_57 : decode b_G_init 57 = .ok (.aload_n 0, 1) := by decide +kernel
theorem d_G_init_58 : decode b_G_init 58 = .ok (.iconst 0, 1) := by decide +kernel
theorem d_G_init_59 : decode b_G_init 59 = .ok (.putfield 40, 3) := by decide +kernel
theorem d_G_init_62 : decode b_G_init 62 = .ok (.return_, 1) := by decide +kernel
theorem d_G_person_0 : decode b_G_person 0 = .ok (.iload_n 1, 1) := by decide +kernel
theorem d_G_person_1 : decode b_G_person 1 = .ok (.ifCond .lt (10), 3) := by decide +kernel
theorem d_G_person_4 : decode b_G_person 4 = .ok (.iload_n 1, 1) := by decide +kernel
theorem d_G_person_5 : decode b_G_person 5 = .ok (.sipush 256, 3) := by decide +kernel
theorem d_G_person_8 : decode b_G_person 8 = .ok (.if_icmp .lt (13), 3) := by decide +kernel
theorem d_G_person_11 : decode b_G_person 11 = .ok (.new 44, 3) := by decide +kernel
theorem d_G_person_14 : decode b_G_person 14 = .ok (.dup, 1) := by decide +kernel
theorem d_G_person_15 : decode b_G_person 15 = .ok (.ldc 46, 2) := by decide +kernel
theorem d_G_person_17 : decode b_G_person 17 = .ok (.invokespecial 48, 3) := by decide +kernel
theorem d_G_person_20 : decode b_G_person 20 = .ok (.athrow, 1) := by decide +kernel
theorem d_G_person_21 : decode b_G_person 21 = .ok (.aload_n 0, 1) := by decide +kernel
theorem d_G_person_22 : decode b_G_person 22 = .ok (.getfield 10, 3) := by decide +kernel
theorem d_G_person_25 : decode b_G_person 25 = .ok (.getfield 51, 3) := by decide +kernel
theorem d_G_person_28 : decode b_G_person 28 = .ok (.iconst 4, 1) := by decide +kernel
theorem d_G_person_29 : decode b_G_person 29 = .ok (.if_icmp .lt (13), 3) := by decide +kernel
theorem d_G_person_32 : decode b_G_person 32 = .ok (.new 54, 3) := by decide +kernel
theorem d_G_person_35 : decode b_G_person 35 = .ok (.dup, 1) := by decide +kernel
theorem d_G_person_36 : decode b_G_person 36 = .ok (.ldc 56, 2) := by decide +kernel
theorem d_G_person_38 : decode b_G_person 38 = .ok (.invokespecial 58, 3) := by decide +kernel
theorem d_G_person_41 : decode b_G_person 41 = .ok (.athrow, 1) := by decide +kernel
theorem d_G_person_42 : decode b_G_person 42 = .ok (.aload_n 0, 1) := by decide +kernel
theorem d_G_person_43 : decode b_G_person 43 = .ok (.getfield 10, 3) := by decide +kernel
theorem d_G_person_46 : decode b_G_person 46 = .ok (.iload_n 1, 1) := by decide +kernel
theorem d_G_person_47 : decode b_G_person 47 = .ok (.invokevirtual 59, 3) := by decide +kernel
theorem d_G_person_50 : decode b_G_person 50 = .ok (.ireturn, 1) := by decide +kernel
theorem d_G_off_0 : decode b_G_off 0 = .ok (.aload_n 0, 1) := by decide +kernel
theorem d_G_off_1 : decode b_G_off 1 = .ok (.iload_n 1, 1) := by decide +kernel
theorem d_G_off_2 : decode b_G_off 2 = .ok (.invokevirtual 63, 3) := by decide +kernel
theorem d_G_off_5 : decode b_G_off 5 = .ok (.aload_n 0, 1) := by decide +kernel
theorem d_G_off_6 : decode b_G_off 6 = .ok (.iload_n 2, 1) := by decide +kernel
theorem d_G_off_7 : decode b_G_off 7 = .ok (.iload_n 3, 1) := by decide +kernel
theorem d_G_off_8 : decode b_G_off 8 = .ok (.invokevirtual 67, 3) := by decide +kernel
theorem d_G_off_11 : decode b_G_off 11 = .ok (.aload_n 0, 1) := by decide +kernel
theorem d_G_off_12 : decode b_G_off 12 = .ok (.invokevirtual 71, 3) := by decide +kernel
theorem d_G_off_15 : decode b_G_off 15 = .ok (.aload_n 0, 1) := by decide +kernel
theorem d_G_off_16 : decode b_G_off 16 = .ok (.getfield 10, 3) := by decide +kernel
theorem d_G_off_19 : decode b_G_off 19 = .ok (.iload_n 1, 1) := by decide +kernel
theorem d_G_off_20 : decode b_G_off 20 = .ok (.iload_n 2, 1) := by decide +kernel
theorem d_G_off_21 : decode b_G_off 21 = .ok (.iload_n 3, 1) := by decide +kernel
theorem d_G_off_22 : decode b_G_off 22 = .ok (.invokevirtual 74, 3) := by decide +kernel
theorem d_G_off_25 : decode b_G_off 25 = .ok (.aload_n 0, 1) := by decide +kernel
theorem d_G_off_26 : decode b_G_off 26 = .ok (.getfield 10, 3) := by decide +kernel
theorem d_G_off_29 : decode b_G_off 29 = .ok (.getfield 78, 3) := by decide +kernel
theorem d_G_off_32 : decode b_G_off 32 = .ok (.ireturn, 1) := by decide +kernel
theorem d_G_task_0 : decode b_G_task 0 = .ok (.iload_n 1, 1) := by decide +kernel
theorem d_G_task_1 : decode b_G_task 1 = .ok (.ifCond .lt (9), 3) := by decide +kernel
theorem d_G_task_4 : decode b_G_task 4 = .ok (.iload_n 1, 1) := by decide +kernel
theorem d_G_task_5 : decode b_G_task 5 = .ok (.bipush 8, 2) := by decide +kernel
theorem d_G_task_7 : decode b_G_task 7 = .ok (.if_icmp .lt (13), 3) := by decide +kernel
theorem d_G_task_10 : decode b_G_task 10 = .ok (.new 81, 3) := by decide +kernel
theorem d_G_task_13 : decode b_G_task 13 = .ok (.dup, 1) := by decide +kernel
theorem d_G_task_14 : decode b_G_task 14 = .ok (.ldc 83, 2) := by decide +kernel
theorem d_G_task_16 : decode b_G_task 16 = .ok (.invokespecial 85, 3) := by decide +kernel
theorem d_G_task_19 : decode b_G_task 19 = .ok (.athrow, 1) := by decide +kernel
theorem d_G_task_20 : decode b_G_task 20 = .ok (.aload_n 0, 1) := by decide +kernel
theorem d_G_task_21 : decode b_G_task 21 = .ok (.iload_n 2, 1) := by decide +kernel
theorem d_G_task_22 : decode b_G_task 22 = .ok (.iload_n 3, 1) := by decide +kernel
theorem d_G_task_23 : decode b_G_task 23 = .ok (.invokevirtual 67, 3) := by decide +kernel
theorem d_G_task_26 : decode b_G_task 26 = .ok (.aload_n 0, 1) := by decide +kernel
theorem d_G_task_27 : decode b_G_task 27 = .ok (.getfield 10, 3) := by decide +kernel
theorem d_G_task_30 : decode b_G_task 30 = .ok (.getfield 86, 3) := by decide +kernel
theorem d_G_task_33 : decode b_G_task 33 = .ok (.bipush 6, 2) := by decide +kernel
theorem d_G_task_35 : decode b_G_task 35 = .ok (.if_icmp .lt (13), 3) := by decide +kernel
theorem d_G_task_38 : decode b_G_task 38 = .ok (.new 54, 3) := by decide +kernel
theorem d_G_task_41 : decode b_G_task 41 = .ok (.dup, 1) := by decide +kernel
theorem d_G_task_42 : decode b_G_task 42 = .ok (.ldc 89, 2) := by decide +kernel
theorem d_G_task_44 : decode b_G_task 44 = .ok (.invokespecial 58, 3) := by decide +kernel
theorem d_G_task_47 : decode b_G_task 47 = .ok (.athrow, 1) := by decide +kernel
theorem d_G_task_48 : decode b_G_task 48 = .ok (.aload_n 0, 1) := by decide +kernel
theorem d_G_task_49 : decode b_G_task 49 = .ok (.getfield 23, 3) := by decide +kernel
theorem d_G_task_52 : decode b_G_task 52 = .ok (.aload_n 0, 1) := by decide +kernel
theorem d_G_task_53 : decode b_G_task 53 = .ok (.getfield 10, 3) := by decide +kernel
theorem d_G_task_56 : decode b_G_task 56 = .ok (.getfield 86, 3) := by decide +kernel
theorem d_G_task_59 : decode b_G_task 59 = .ok (.iconst (-1), 1) := by decide +kernel
theorem d_G_task_60 : decode b_G_task 60 = .ok (.iastore, 1) := by decide +kernel
theorem d_G_task_61 : decode b_G_task 61 = .ok (.aload_n 0, 1) := by decide +kernel
theorem d_G_task_62 : decode b_G_task 62 = .ok (.getfield 10, 3) := by decide +kernel
theorem d_G_task_65 : decode b_G_task 65 = .ok (.iload_n 1, 1) := by decide +kernel
theorem d_G_task_66 : decode b_G_task 66 = .ok (.iload_n 2, 1) := by decide +kernel
theorem d_G_task_67 : decode b_G_task 67 = .ok (.iload_n 3, 1) := by decide +kernel
theorem d_G_task_68 : decode b_G_task 68 = .ok (.iload 4, 2) := by decide +kernel
theorem d_G_task_70 : decode b_G_task 70 = .ok (.invokevirtual 91, 3) := by decide +kernel
theorem d_G_task_73 : decode b_G_task 73 = .ok (.ireturn, 1) := by decide +kernel
theorem d_G_rest_0 : decode b_G_rest 0 = .ok (.aload_n 0, 1) := by decide +kernel
theorem d_G_rest_1 : decode b_G_rest 1 = .ok (.iload_n 1, 1) := by decide +kernel
theorem d_G_rest_2 : decode b_G_rest 2 = .ok (.invokevirtual 95, 3) := by decide +kernel
theorem d_G_rest_5 : decode b_G_rest 5 = .ok (.aload_n 0, 1) := by decide +kernel
theorem d_G_rest_6 : decode b_G_rest 6 = .ok (.getfield 10, 3) := by decide +kernel
theorem d_G_rest_9 : decode b_G_rest 9 = .ok (.getfield 98, 3) := by decide +kernel
theorem d_G_rest_12 : decode b_G_rest 12 = .ok (.istore_n 2, 1) := by decide +kernel
theorem d_G_rest_13 : decode b_G_rest 13 = .ok (.aload_n 0, 1) := by decide +kernel
theorem d_G_rest_14 : decode b_G_rest 14 = .ok (.getfield 10, 3) := by decide +kernel
theorem d_G_rest_17 : decode b_G_rest 17 = .ok (.iload_n 1, 1) := by decide +kernel
theorem d_G_rest_18 : decode b_G_rest 18 = .ok (.putfield 98, 3) := by decide +kernel
theorem d_G_rest_21 : decode b_G_rest 21 = .ok (.iload_n 2, 1) := by decide +kernel
theorem d_G_rest_22 : decode b_G_rest 22 = .ok (.ireturn, 1) := by decide +kernel
theorem d_G_limit_0 : decode b_G_limit 0 = .ok (.aload_n 0, 1) := by decide +kernel
theorem d_G_limit_1 : decode b_G_limit 1 = .ok (.iload_n 1, 1) := by decide +kernel
theorem d_G_limit_2 : decode b_G_limit 2 = .ok (.invokevirtual 95, 3) := by decide +kernel
theorem d_G_limit_5 : decode b_G_limit 5 = .ok (.aload_n 0, 1) := by decide +kernel
theorem d_G_limit_6 : decode b_G_limit 6 = .ok (.getfield 10, 3) := by decide +kernel
theorem d_G_limit_9 : decode b_G_limit 9 = .ok (.getfield 101, 3) := by decide +kernel
theorem d_G_limit_12 : decode b_G_limit 12 = .ok (.istore_n 2, 1) := by decide +kernel
theorem d_G_limit_13 : decode b_G_limit 13 = .ok (.aload_n 0, 1) := by decide +kernel
theorem d_G_limit_14 : decode b_G_limit 14 = .ok (.getfield 10, 3) := by decide +kernel
theorem d_G_limit_17 : decode b_G_limit 17 = .ok (.iload_n 1, 1) := by decide +kernel
theorem d_G_limit_18 : decode b_G_limit 18 = .ok (.putfield 101, 3) := by decide +kernel
theorem d_G_limit_21 : decode b_G_limit 21 = .ok (.iload_n 2, 1) := by decide +kernel
theorem d_G_limit_22 : decode b_G_limit 22 = .ok (.ireturn, 1) := by decide +kernel
theorem d_G_freeze_0 : decode b_G_freeze 0 = .ok (.aload_n 0, 1) := by decide +kernel
theorem d_G_freeze_1 : decode b_G_freeze 1 = .ok (.iload_n 1, 1) := by decide +kernel
theorem d_G_freeze_2 : decode b_G_freeze 2 = .ok (.invokevirtual 95, 3) := by decide +kernel
theorem d_G_freeze_5 : decode b_G_freeze 5 = .ok (.aload_n 0, 1) := by decide +kernel
theorem d_G_freeze_6 : decode b_G_freeze 6 = .ok (.getfield 34, 3) := by decide +kernel
theorem d_G_freeze_9 : decode b_G_freeze 9 = .ok (.istore_n 2, 1) := by decide +kernel
theorem d_G_freeze_10 : decode b_G_freeze 10 = .ok (.aload_n 0, 1) := by decide +kernel
theorem d_G_freeze_11 : decode b_G_freeze 11 = .ok (.iload_n 1, 1) := by decide +kernel
theorem d_G_freeze_12 : decode b_G_freeze 12 = .ok (.putfield 34, 3) := by decide +kernel
theorem d_G_freeze_15 : decode b_G_freeze 15 = .ok (.iload_n 2, 1) := by decide +kernel
theorem d_G_freeze_16 : decode b_G_freeze 16 = .ok (.ireturn, 1) := by decide +kernel
theorem d_G_run_0 : decode b_G_run 0 = .ok (.aload_n 0, 1) := by decide +kernel
theorem d_G_run_1 : decode b_G_run 1 = .ok (.getfield 19, 3) := by decide +kernel
theorem d_G_run_4 : decode b_G_run 4 = .ok (.aload_n 0, 1) := by decide +kernel
theorem d_G_run_5 : decode b_G_run 5 = .ok (.getfield 10, 3) := by decide +kernel
theorem d_G_run_8 : decode b_G_run 8 = .ok (.aload_n 0, 1) := by decide +kernel
theorem d_G_run_9 : decode b_G_run 9 = .ok (.getfield 23, 3) := by decide +kernel
theorem d_G_run_12 : decode b_G_run 12 = .ok (.invokevirtual 104, 3) := by decide +kernel
theorem d_G_run_15 : decode b_G_run 15 = .ok (.ifCond .ne (25), 3) := by decide +kernel
theorem d_G_run_18 : decode b_G_run 18 = .ok (.aload_n 0, 1) := by decide +kernel
theorem d_G_run_19 : decode b_G_run 19 = .ok (.aload_n 0, 1) := by decide +kernel
theorem d_G_run_20 : decode b_G_run 20 = .ok (.getfield 19, 3) := by decide +kernel
theorem d_G_run_23 : decode b_G_run 23 = .ok (.aload_n 0, 1) := by decide +kernel
theorem d_G_run_24 : decode b_G_run 24 = .ok (.getfield 10, 3) := by decide +kernel
theorem d_G_run_27 : decode b_G_run 27 = .ok (.aload_n 0, 1) := by decide +kernel
theorem d_G_run_28 : decode b_G_run 28 = .ok (.getfield 23, 3) := by decide +kernel
theorem d_G_run_31 : decode b_G_run 31 = .ok (.iconst 0, 1) := by decide +kernel
theorem d_G_run_32 : decode b_G_run 32 = .ok (.invokevirtual 108, 3) := by decide +kernel
theorem d_G_run_35 : decode b_G_run 35 = .ok (.putfield 37, 3) := by decide +kernel
theorem d_G_run_38 : decode b_G_run 38 = .ok (.iconst (-1), 1) := by decide +kernel
theorem d_G_run_39 : decode b_G_run 39 = .ok (.ireturn, 1) := by decide +kernel
theorem d_G_run_40 : decode b_G_run 40 = .ok (.aload_n 0, 1) := by decide +kernel
theorem d_G_run_41 : decode b_G_run 41 = .ok (.invokevirtual 112, 3) := by decide +kernel
theorem d_G_run_44 : decode b_G_run 44 = .ok (.aload_n 0, 1) := by decide +kernel
theorem d_G_run_45 : decode b_G_run 45 = .ok (.invokevirtual 115, 3) := by decide +kernel
theorem d_G_run_48 : decode b_G_run 48 = .ok (.ireturn, 1) := by decide +kernel
theorem d_G_told_0 : decode b_G_told 0 = .ok (.aload_n 0, 1) := by decide +kernel
theorem d_G_told_1 : decode b_G_told 1 = .ok (.getfield 37, 3) := by decide +kernel
theorem d_G_told_4 : decode b_G_told 4 = .ok (.ireturn, 1) := by decide +kernel
theorem d_G_of_0 : decode b_G_of 0 = .ok (.aload_n 0, 1) := by decide +kernel
theorem d_G_of_1 : decode b_G_of 1 = .ok (.iload_n 1, 1) := by decide +kernel
theorem d_G_of_2 : decode b_G_of 2 = .ok (.invokevirtual 119, 3) := by decide +kernel
theorem d_G_of_5 : decode b_G_of 5 = .ok (.aload_n 0, 1) := by decide +kernel
theorem d_G_of_6 : decode b_G_of 6 = .ok (.getfield 23, 3) := by decide +kernel
theorem d_G_of_9 : decode b_G_of 9 = .ok (.iload_n 1, 1) := by decide +kernel
theorem d_G_of_10 : decode b_G_of 10 = .ok (.iaload, 1) := by decide +kernel
theorem d_G_of_11 : decode b_G_of 11 = .ok (.ireturn, 1) := by decide +kernel
theorem d_G_cost_0 : decode b_G_cost 0 = .ok (.aload_n 0, 1) := by decide +kernel
theorem d_G_cost_1 : decode b_G_cost 1 = .ok (.invokevirtual 122, 3) := by decide +kernel
theorem d_G_cost_4 : decode b_G_cost 4 = .ok (.aload_n 0, 1) := by decide +kernel
theorem d_G_cost_5 : decode b_G_cost 5 = .ok (.invokevirtual 115, 3) := by decide +kernel
theorem d_G_cost_8 : decode b_G_cost 8 = .ok (.ireturn, 1) := by decide +kernel
theorem d_G_absent_0 : decode b_G_absent 0 = .ok (.aload_n 0, 1) := by decide +kernel
theorem d_G_absent_1 : decode b_G_absent 1 = .ok (.iload_n 1, 1) := by decide +kernel
theorem d_G_absent_2 : decode b_G_absent 2 = .ok (.invokevirtual 63, 3) := by decide +kernel
theorem d_G_absent_5 : decode b_G_absent 5 = .ok (.aload_n 0, 1) := by decide +kernel
theorem d_G_absent_6 : decode b_G_absent 6 = .ok (.iload_n 2, 1) := by decide +kernel
theorem d_G_absent_7 : decode b_G_absent 7 = .ok (.bipush 96, 2) := by decide +kernel
theorem d_G_absent_9 : decode b_G_absent 9 = .ok (.invokevirtual 67, 3) := by decide +kernel
theorem d_G_absent_12 : decode b_G_absent 12 = .ok (.aload_n 0, 1) := by decide +kernel
theorem d_G_absent_13 : decode b_G_absent 13 = .ok (.invokevirtual 122, 3) := by decide +kernel
theorem d_G_absent_16 : decode b_G_absent 16 = .ok (.aload_n 0, 1) := by decide +kernel
theorem d_G_absent_17 : decode b_G_absent 17 = .ok (.invokevirtual 71, 3) := by decide +kernel
theorem d_G_absent_20 : decode b_G_absent 20 = .ok (.aload_n 0, 1) := by decide +kernel
theorem d_G_absent_21 : decode b_G_absent 21 = .ok (.getfield 10, 3) := by decide +kernel
theorem d_G_absent_24 : decode b_G_absent 24 = .ok (.iload_n 1, 1) := by decide +kernel
theorem d_G_absent_25 : decode b_G_absent 25 = .ok (.iload_n 2, 1) := by decide +kernel
theorem d_G_absent_26 : decode b_G_absent 26 = .ok (.bipush 96, 2) := by decide +kernel
theorem d_G_absent_28 : decode b_G_absent 28 = .ok (.invokevirtual 74, 3) := by decide +kernel
theorem d_G_absent_31 : decode b_G_absent 31 = .ok (.aload_n 0, 1) := by decide +kernel
theorem d_G_absent_32 : decode b_G_absent 32 = .ok (.getfield 19, 3) := by decide +kernel
theorem d_G_absent_35 : decode b_G_absent 35 = .ok (.aload_n 0, 1) := by decide +kernel
theorem d_G_absent_36 : decode b_G_absent 36 = .ok (.getfield 10, 3) := by decide +kernel
theorem d_G_absent_39 : decode b_G_absent 39 = .ok (.aload_n 0, 1) := by decide +kernel
theorem d_G_absent_40 : decode b_G_absent 40 = .ok (.getfield 23, 3) := by decide +kernel
theorem d_G_absent_43 : decode b_G_absent 43 = .ok (.aload_n 0, 1) := by decide +kernel
theorem d_G_absent_44 : decode b_G_absent 44 = .ok (.getfield 34, 3) := by decide +kernel
theorem d_G_absent_47 : decode b_G_absent 47 = .ok (.invokevirtual 125, 3) := by decide +kernel
theorem d_G_absent_50 : decode b_G_absent 50 = .ok (.ifCond .ne (35), 3) := by decide +kernel
theorem d_G_absent_53 : decode b_G_absent 53 = .ok (.aload_n 0, 1) := by decide +kernel
theorem d_G_absent_54 : decode b_G_absent 54 = .ok (.aload_n 0, 1) := by decide +kernel
theorem d_G_absent_55 : decode b_G_absent 55 = .ok (.getfield 19, 3) := by decide +kernel
theorem d_G_absent_58 : decode b_G_absent 58 = .ok (.aload_n 0, 1) := by decide +kernel
theorem d_G_absent_59 : decode b_G_absent 59 = .ok (.getfield 10, 3) := by decide +kernel
theorem d_G_absent_62 : decode b_G_absent 62 = .ok (.aload_n 0, 1) := by decide +kernel
theorem d_G_absent_63 : decode b_G_absent 63 = .ok (.getfield 23, 3) := by decide +kernel
theorem d_G_absent_66 : decode b_G_absent 66 = .ok (.aload_n 0, 1) := by decide +kernel
theorem d_G_absent_67 : decode b_G_absent 67 = .ok (.getfield 34, 3) := by decide +kernel
theorem d_G_absent_70 : decode b_G_absent 70 = .ok (.invokevirtual 108, 3) := by decide +kernel
theorem d_G_absent_73 : decode b_G_absent 73 = .ok (.putfield 37, 3) := by decide +kernel
theorem d_G_absent_76 : decode b_G_absent 76 = .ok (.aload_n 0, 1) := by decide +kernel
theorem d_G_absent_77 : decode b_G_absent 77 = .ok (.getfield 10, 3) := by decide +kernel
theorem d_G_absent_80 : decode b_G_absent 80 = .ok (.invokevirtual 129, 3) := by decide +kernel
theorem d_G_absent_83 : decode b_G_absent 83 = .ok (.iconst (-1), 1) := by decide +kernel
theorem d_G_absent_84 : decode b_G_absent 84 = .ok (.ireturn, 1) := by decide +kernel
theorem d_G_absent_85 : decode b_G_absent 85 = .ok (.aload_n 0, 1) := by decide +kernel
theorem d_G_absent_86 : decode b_G_absent 86 = .ok (.invokevirtual 132, 3) := by decide +kernel
theorem d_G_absent_89 : decode b_G_absent 89 = .ok (.aload_n 0, 1) := by decide +kernel
theorem d_G_absent_90 : decode b_G_absent 90 = .ok (.invokevirtual 112, 3) := by decide +kernel
theorem d_G_absent_93 : decode b_G_absent 93 = .ok (.aload_n 0, 1) := by decide +kernel
theorem d_G_absent_94 : decode b_G_absent 94 = .ok (.getfield 30, 3) := by decide +kernel
theorem d_G_absent_97 : decode b_G_absent 97 = .ok (.ireturn, 1) := by decide +kernel
theorem d_G_changed_0 : decode b_G_changed 0 = .ok (.iload_n 1, 1) := by decide +kernel
theorem d_G_changed_1 : decode b_G_changed 1 = .ok (.ifCond .lt (11), 3) := by decide +kernel
theorem d_G_changed_4 : decode b_G_changed 4 = .ok (.iload_n 1, 1) := by decide +kernel
theorem d_G_changed_5 : decode b_G_changed 5 = .ok (.aload_n 0, 1) := by decide +kernel
theorem d_G_changed_6 : decode b_G_changed 6 = .ok (.getfield 30, 3) := by decide +kernel
theorem d_G_changed_9 : decode b_G_changed 9 = .ok (.if_icmp .lt (13), 3) := by decide +kernel
theorem d_G_changed_12 : decode b_G_changed 12 = .ok (.new 81, 3) := by decide +kernel
theorem d_G_changed_15 : decode b_G_changed 15 = .ok (.dup, 1) := by decide +kernel
theorem d_G_changed_16 : decode b_G_changed 16 = .ok (.ldc 135, 2) := by decide +kernel
theorem d_G_changed_18 : decode b_G_changed 18 = .ok (.invokespecial 85, 3) := by decide +kernel
theorem d_G_changed_21 : decode b_G_changed 21 = .ok (.athrow, 1) := by decide +kernel
theorem d_G_changed_22 : decode b_G_changed 22 = .ok (.aload_n 0, 1) := by decide +kernel
theorem d_G_changed_23 : decode b_G_changed 23 = .ok (.getfield 27, 3) := by decide +kernel
theorem d_G_changed_26 : decode b_G_changed 26 = .ok (.iload_n 1, 1) := by decide +kernel
theorem d_G_changed_27 : decode b_G_changed 27 = .ok (.iaload, 1) := by decide +kernel
theorem d_G_changed_28 : decode b_G_changed 28 = .ok (.ireturn, 1) := by decide +kernel
theorem d_G_swap_0 : decode b_G_swap 0 = .ok (.aload_n 0, 1) := by decide +kernel
theorem d_G_swap_1 : decode b_G_swap 1 = .ok (.iload_n 1, 1) := by decide +kernel
theorem d_G_swap_2 : decode b_G_swap 2 = .ok (.invokevirtual 119, 3) := by decide +kernel
theorem d_G_swap_5 : decode b_G_swap 5 = .ok (.aload_n 0, 1) := by decide +kernel
theorem d_G_swap_6 : decode b_G_swap 6 = .ok (.iload_n 2, 1) := by decide +kernel
theorem d_G_swap_7 : decode b_G_swap 7 = .ok (.invokevirtual 119, 3) := by decide +kernel
theorem d_G_swap_10 : decode b_G_swap 10 = .ok (.aload_n 0, 1) := by decide +kernel
theorem d_G_swap_11 : decode b_G_swap 11 = .ok (.invokevirtual 122, 3) := by decide +kernel
theorem d_G_swap_14 : decode b_G_swap 14 = .ok (.aload_n 0, 1) := by decide +kernel
theorem d_G_swap_15 : decode b_G_swap 15 = .ok (.getfield 10, 3) := by decide +kernel
theorem d_G_swap_18 : decode b_G_swap 18 = .ok (.getfield 137, 3) := by decide +kernel
theorem d_G_swap_21 : decode b_G_swap 21 = .ok (.iload_n 1, 1) := by decide +kernel
theorem d_G_swap_22 : decode b_G_swap 22 = .ok (.iaload, 1) := by decide +kernel
theorem d_G_swap_23 : decode b_G_swap 23 = .ok (.aload_n 0, 1) := by decide +kernel
theorem d_G_swap_24 : decode b_G_swap 24 = .ok (.getfield 34, 3) := by decide +kernel
theorem d_G_swap_27 : decode b_G_swap 27 = .ok (.if_icmp .lt (19), 3) := by decide +kernel
theorem d_G_swap_30 : decode b_G_swap 30 = .ok (.aload_n 0, 1) := by decide +kernel
theorem d_G_swap_31 : decode b_G_swap 31 = .ok (.getfield 10, 3) := by decide +kernel
theorem d_G_swap_34 : decode b_G_swap 34 = .ok (.getfield 137, 3) := by decide +kernel
theorem d_G_swap_37 : decode b_G_swap 37 = .ok (.iload_n 2, 1) := by decide +kernel
theorem d_G_swap_38 : decode b_G_swap 38 = .ok (.iaload, 1) := by decide +kernel
theorem d_G_swap_39 : decode b_G_swap 39 = .ok (.aload_n 0, 1) := by decide +kernel
theorem d_G_swap_40 : decode b_G_swap 40 = .ok (.getfield 34, 3) := by decide +kernel
theorem d_G_swap_43 : decode b_G_swap 43 = .ok (.if_icmp .ge (5), 3) := by decide +kernel
theorem d_G_swap_46 : decode b_G_swap 46 = .ok (.iconst 1, 1) := by decide +kernel
theorem d_G_swap_47 : decode b_G_swap 47 = .ok (.ireturn, 1) := by decide +kernel
theorem d_G_swap_48 : decode b_G_swap 48 = .ok (.aload_n 0, 1) := by decide +kernel
theorem d_G_swap_49 : decode b_G_swap 49 = .ok (.getfield 23, 3) := by decide +kernel
theorem d_G_swap_52 : decode b_G_swap 52 = .ok (.iload_n 1, 1) := by decide +kernel
theorem d_G_swap_53 : decode b_G_swap 53 = .ok (.iaload, 1) := by decide +kernel
theorem d_G_swap_54 : decode b_G_swap 54 = .ok (.istore_n 3, 1) := by decide +kernel
theorem d_G_swap_55 : decode b_G_swap 55 = .ok (.aload_n 0, 1) := by decide +kernel
theorem d_G_swap_56 : decode b_G_swap 56 = .ok (.getfield 23, 3) := by decide +kernel
theorem d_G_swap_59 : decode b_G_swap 59 = .ok (.iload_n 2, 1) := by decide +kernel
theorem d_G_swap_60 : decode b_G_swap 60 = .ok (.iaload, 1) := by decide +kernel
theorem d_G_swap_61 : decode b_G_swap 61 = .ok (.istore 4, 2) := by decide +kernel
theorem d_G_swap_63 : decode b_G_swap 63 = .ok (.aload_n 0, 1) := by decide +kernel
theorem d_G_swap_64 : decode b_G_swap 64 = .ok (.iload_n 1, 1) := by decide +kernel
theorem d_G_swap_65 : decode b_G_swap 65 = .ok (.iload 4, 2) := by decide +kernel
theorem d_G_swap_67 : decode b_G_swap 67 = .ok (.invokevirtual 140, 3) := by decide +kernel
theorem d_G_swap_70 : decode b_G_swap 70 = .ok (.ifCond .ne (12), 3) := by decide +kernel
theorem d_G_swap_73 : decode b_G_swap 73 = .ok (.aload_n 0, 1) := by decide +kernel
theorem d_G_swap_74 : decode b_G_swap 74 = .ok (.iload_n 2, 1) := by decide +kernel
theorem d_G_swap_75 : decode b_G_swap 75 = .ok (.iload_n 3, 1) := by decide +kernel
theorem d_G_swap_76 : decode b_G_swap 76 = .ok (.invokevirtual 140, 3) := by decide +kernel
theorem d_G_swap_79 : decode b_G_swap 79 = .ok (.ifCond .eq (5), 3) := by decide +kernel
theorem d_G_swap_82 : decode b_G_swap 82 = .ok (.iconst 2, 1) := by decide +kernel
theorem d_G_swap_83 : decode b_G_swap 83 = .ok (.ireturn, 1) := by decide +kernel
theorem d_G_swap_84 : decode b_G_swap 84 = .ok (.aload_n 0, 1) := by decide +kernel
theorem d_G_swap_85 : decode b_G_swap 85 = .ok (.iload_n 1, 1) := by decide +kernel
theorem d_G_swap_86 : decode b_G_swap 86 = .ok (.iload 4, 2) := by decide +kernel
theorem d_G_swap_88 : decode b_G_swap 88 = .ok (.invokevirtual 144, 3) := by decide +kernel
theorem d_G_swap_91 : decode b_G_swap 91 = .ok (.ifCond .ne (12), 3) := by decide +kernel
theorem d_G_swap_94 : decode b_G_swap 94 = .ok (.aload_n 0, 1) := by decide +kernel
theorem d_G_swap_95 : decode b_G_swap 95 = .ok (.iload_n 2, 1) := by decide +kernel
theorem d_G_swap_96 : decode b_G_swap 96 = .ok (.iload_n 3, 1) := by decide +kernel
theorem d_G_swap_97 : decode b_G_swap 97 = .ok (.invokevirtual 144, 3) := by decide +kernel
theorem d_G_swap_100 : decode b_G_swap 100 = .ok (.ifCond .eq (5), 3) := by decide +kernel
theorem d_G_swap_103 : decode b_G_swap 103 = .ok (.iconst 3, 1) := by decide +kernel
theorem d_G_swap_104 : decode b_G_swap 104 = .ok (.ireturn, 1) := by decide +kernel
theorem d_G_swap_105 : decode b_G_swap 105 = .ok (.aload_n 0, 1) := by decide +kernel
theorem d_G_swap_106 : decode b_G_swap 106 = .ok (.getfield 23, 3) := by decide +kernel
theorem d_G_swap_109 : decode b_G_swap 109 = .ok (.iload_n 1, 1) := by decide +kernel
theorem d_G_swap_110 : decode b_G_swap 110 = .ok (.iload 4, 2) := by decide +kernel
theorem d_G_swap_112 : decode b_G_swap 112 = .ok (.iastore, 1) := by decide +kernel
theorem d_G_swap_113 : decode b_G_swap 113 = .ok (.aload_n 0, 1) := by decide +kernel
theorem d_G_swap_114 : decode b_G_swap 114 = .ok (.getfield 23, 3) := by decide +kernel
theorem d_G_swap_117 : decode b_G_swap 117 = .ok (.iload_n 2, 1) := by decide +kernel
theorem d_G_swap_118 : decode b_G_swap 118 = .ok (.iload_n 3, 1) := by decide +kernel
theorem d_G_swap_119 : decode b_G_swap 119 = .ok (.iastore, 1) := by decide +kernel
theorem d_G_swap_120 : decode b_G_swap 120 = .ok (.aload_n 0, 1) := by decide +kernel
theorem d_G_swap_121 : decode b_G_swap 121 = .ok (.iload_n 3, 1) := by decide +kernel
theorem d_G_swap_122 : decode b_G_swap 122 = .ok (.iload 4, 2) := by decide +kernel
theorem d_G_swap_124 : decode b_G_swap 124 = .ok (.invokevirtual 147, 3) := by decide +kernel
theorem d_G_swap_127 : decode b_G_swap 127 = .ok (.istore 5, 2) := by decide +kernel
theorem d_G_swap_129 : decode b_G_swap 129 = .ok (.iload 5, 2) := by decide +kernel
theorem d_G_swap_131 : decode b_G_swap 131 = .ok (.ifCond .eq (18), 3) := by decide +kernel
theorem d_G_swap_134 : decode b_G_swap 134 = .ok (.aload_n 0, 1) := by decide +kernel
theorem d_G_swap_135 : decode b_G_swap 135 = .ok (.getfield 23, 3) := by decide +kernel
theorem d_G_swap_138 : decode b_G_swap 138 = .ok (.iload_n 1, 1) := by decide +kernel
theorem d_G_swap_139 : decode b_G_swap 139 = .ok (.iload_n 3, 1) := by decide +kernel
theorem d_G_swap_140 : decode b_G_swap 140 = .ok (.iastore, 1) := by decide +kernel
theorem d_G_swap_141 : decode b_G_swap 141 = .ok (.aload_n 0, 1) := by decide +kernel
theorem d_G_swap_142 : decode b_G_swap 142 = .ok (.getfield 23, 3) := by decide +kernel
theorem d_G_swap_145 : decode b_G_swap 145 = .ok (.iload_n 2, 1) := by decide +kernel
theorem d_G_swap_146 : decode b_G_swap 146 = .ok (.iload 4, 2) := by decide +kernel
theorem d_G_swap_148 : decode b_G_swap 148 = .ok (.iastore, 1) := by decide +kernel
theorem d_G_swap_149 : decode b_G_swap 149 = .ok (.iload 5, 2) := by decide +kernel
theorem d_G_swap_151 : decode b_G_swap 151 = .ok (.ireturn, 1) := by decide +kernel
theorem d_G_work_0 : decode b_G_work 0 = .ok (.aload_n 0, 1) := by decide +kernel
theorem d_G_work_1 : decode b_G_work 1 = .ok (.iload_n 1, 1) := by decide +kernel
theorem d_G_work_2 : decode b_G_work 2 = .ok (.invokevirtual 63, 3) := by decide +kernel
theorem d_G_work_5 : decode b_G_work 5 = .ok (.aload_n 0, 1) := by decide +kernel
theorem d_G_work_6 : decode b_G_work 6 = .ok (.iload_n 1, 1) := by decide +kernel
theorem d_G_work_7 : decode b_G_work 7 = .ok (.invokevirtual 151, 3) := by decide +kernel
theorem d_G_work_10 : decode b_G_work 10 = .ok (.ireturn, 1) := by decide +kernel
theorem d_G_fair_0 : decode b_G_fair 0 = .ok (.aload_n 0, 1) := by decide +kernel
theorem d_G_fair_1 : decode b_G_fair 1 = .ok (.getfield 10, 3) := by decide +kernel
theorem d_G_fair_4 : decode b_G_fair 4 = .ok (.getfield 51, 3) := by decide +kernel
theorem d_G_fair_7 : decode b_G_fair 7 = .ok (.ifCond .ne (5), 3) := by decide +kernel
theorem d_G_fair_10 : decode b_G_fair 10 = .ok (.iconst 0, 1) := by decide +kernel
theorem d_G_fair_11 : decode b_G_fair 11 = .ok (.ireturn, 1) := by decide +kernel
theorem d_G_fair_12 : decode b_G_fair 12 = .ok (.iconst 0, 1) := by decide +kernel
theorem d_G_fair_13 : decode b_G_fair 13 = .ok (.istore_n 1, 1) := by decide +kernel
theorem d_G_fair_14 : decode b_G_fair 14 = .ok (.bipush 6, 2) := by decide +kernel
theorem d_G_fair_16 : decode b_G_fair 16 = .ok (.istore_n 2, 1) := by decide +kernel
theorem d_G_fair_17 : decode b_G_fair 17 = .ok (.iconst 0, 1) := by decide +kernel
theorem d_G_fair_18 : decode b_G_fair 18 = .ok (.istore_n 3, 1) := by decide +kernel
theorem d_G_fair_19 : decode b_G_fair 19 = .ok (.iload_n 3, 1) := by decide +kernel
theorem d_G_fair_20 : decode b_G_fair 20 = .ok (.aload_n 0, 1) := by decide +kernel
theorem d_G_fair_21 : decode b_G_fair 21 = .ok (.getfield 10, 3) := by decide +kernel
theorem d_G_fair_24 : decode b_G_fair 24 = .ok (.getfield 51, 3) := by decide +kernel
theorem d_G_fair_27 : decode b_G_fair 27 = .ok (.if_icmp .ge (30), 3) := by decide +kernel
theorem d_G_fair_30 : decode b_G_fair 30 = .ok (.aload_n 0, 1) := by decide +kernel
theorem d_G_fair_31 : decode b_G_fair 31 = .ok (.iload_n 3, 1) := by decide +kernel
theorem d_G_fair_32 : decode b_G_fair 32 = .ok (.invokevirtual 154, 3) := by decide +kernel
theorem d_G_fair_35 : decode b_G_fair 35 = .ok (.istore 4, 2) := by decide +kernel
theorem d_G_fair_37 : decode b_G_fair 37 = .ok (.iload_n 1, 1) := by decide +kernel
theorem d_G_fair_38 : decode b_G_fair 38 = .ok (.iload 4, 2) := by decide +kernel
theorem d_G_fair_40 : decode b_G_fair 40 = .ok (.invokestatic 157, 3) := by decide +kernel
theorem d_G_fair_43 : decode b_G_fair 43 = .ok (.istore_n 1, 1) := by decide +kernel
theorem d_G_fair_44 : decode b_G_fair 44 = .ok (.iload_n 2, 1) := by decide +kernel
theorem d_G_fair_45 : decode b_G_fair 45 = .ok (.iload 4, 2) := by decide +kernel
theorem d_G_fair_47 : decode b_G_fair 47 = .ok (.invokestatic 162, 3) := by decide +kernel
theorem d_G_fair_50 : decode b_G_fair 50 = .ok (.istore_n 2, 1) := by decide +kernel
theorem d_G_fair_51 : decode b_G_fair 51 = .ok (.iinc 3 1, 3) := by decide +kernel
theorem d_G_fair_54 : decode b_G_fair 54 = .ok (.goto (-35), 3) := by decide +kernel
theorem d_G_fair_57 : decode b_G_fair 57 = .ok (.iload_n 1, 1) := by decide +kernel
theorem d_G_fair_58 : decode b_G_fair 58 = .ok (.iload_n 2, 1) := by decide +kernel
theorem d_G_fair_59 : decode b_G_fair 59 = .ok (.isub, 1) := by decide +kernel
theorem d_G_fair_60 : decode b_G_fair 60 = .ok (.ireturn, 1) := by decide +kernel
theorem d_G_count_0 : decode b_G_count 0 = .ok (.iload_n 1, 1) := by decide +kernel
theorem d_G_count_1 : decode b_G_count 1 = .ok (.tableswitch 60 0 3 #[31, 39, 47, 55], 31) := by decide +kernel
theorem d_G_count_32 : decode b_G_count 32 = .ok (.aload_n 0, 1) := by decide +kernel
theorem d_G_count_33 : decode b_G_count 33 = .ok (.getfield 10, 3) := by decide +kernel
theorem d_G_count_36 : decode b_G_count 36 = .ok (.getfield 51, 3) := by decide +kernel
theorem d_G_count_39 : decode b_G_count 39 = .ok (.ireturn, 1) := by decide +kernel
theorem d_G_count_40 : decode b_G_count 40 = .ok (.aload_n 0, 1) := by decide +kernel
theorem d_G_count_41 : decode b_G_count 41 = .ok (.getfield 10, 3) := by decide +kernel
theorem d_G_count_44 : decode b_G_count 44 = .ok (.getfield 86, 3) := by decide +kernel
theorem d_G_count_47 : decode b_G_count 47 = .ok (.ireturn, 1) := by decide +kernel
theorem d_G_count_48 : decode b_G_count 48 = .ok (.aload_n 0, 1) := by decide +kernel
theorem d_G_count_49 : decode b_G_count 49 = .ok (.getfield 10, 3) := by decide +kernel
theorem d_G_count_52 : decode b_G_count 52 = .ok (.getfield 78, 3) := by decide +kernel
theorem d_G_count_55 : decode b_G_count 55 = .ok (.ireturn, 1) := by decide +kernel
theorem d_G_count_56 : decode b_G_count 56 = .ok (.aload_n 0, 1) := by decide +kernel
theorem d_G_count_57 : decode b_G_count 57 = .ok (.getfield 30, 3) := by decide +kernel
theorem d_G_count_60 : decode b_G_count 60 = .ok (.ireturn, 1) := by decide +kernel
theorem d_G_count_61 : decode b_G_count 61 = .ok (.new 81, 3) := by decide +kernel
theorem d_G_count_64 : decode b_G_count 64 = .ok (.dup, 1) := by decide +kernel
theorem d_G_count_65 : decode b_G_count 65 = .ok (.ldc 165, 2) := by decide +kernel
theorem d_G_count_67 : decode b_G_count 67 = .ok (.invokespecial 85, 3) := by decide +kernel
theorem d_G_count_70 : decode b_G_count 70 = .ok (.athrow, 1) := by decide +kernel
theorem d_G_requirePerson_0 : decode b_G_requirePerson 0 = .ok (.aload_n 0, 1) := by decide +kernel
theorem d_G_requirePerson_1 : decode b_G_requirePerson 1 = .ok (.getfield 10, 3) := by decide +kernel
theorem d_G_requirePerson_4 : decode b_G_requirePerson 4 = .ok (.iload_n 1, 1) := by decide +kernel
theorem d_G_requirePerson_5 : decode b_G_requirePerson 5 = .ok (.invokevirtual 167, 3) := by decide +kernel
theorem d_G_requirePerson_8 : decode b_G_requirePerson 8 = .ok (.ifCond .ne (13), 3) := by decide +kernel
theorem d_G_requirePerson_11 : decode b_G_requirePerson 11 = .ok (.new 81, 3) := by decide +kernel
theorem d_G_requirePerson_14 : decode b_G_requirePerson 14 = .ok (.dup, 1) := by decide +kernel
theorem d_G_requirePerson_15 : decode b_G_requirePerson 15 = .ok (.ldc 171, 2) := by decide +kernel
theorem d_G_requirePerson_17 : decode b_G_requirePerson 17 = .ok (.invokespecial 85, 3) := by decide +kernel
theorem d_G_requirePerson_20 : decode b_G_requirePerson 20 = .ok (.athrow, 1) := by decide +kernel
theorem d_G_requirePerson_21 : decode b_G_requirePerson 21 = .ok (.return_, 1) := by decide +kernel
theorem d_G_requireTask_0 : decode b_G_requireTask 0 = .ok (.aload_n 0, 1) := by decide +kernel
theorem d_G_requireTask_1 : decode b_G_requireTask 1 = .ok (.getfield 10, 3) := by decide +kernel
theorem d_G_requireTask_4 : decode b_G_requireTask 4 = .ok (.iload_n 1, 1) := by decide +kernel
theorem d_G_requireTask_5 : decode b_G_requireTask 5 = .ok (.invokevirtual 173, 3) := by decide +kernel
theorem d_G_requireTask_8 : decode b_G_requireTask 8 = .ok (.ifCond .ne (13), 3) := by decide +kernel
theorem d_G_requireTask_11 : decode b_G_requireTask 11 = .ok (.new 81, 3) := by decide +kernel
theorem d_G_requireTask_14 : decode b_G_requireTask 14 = .ok (.dup, 1) := by decide +kernel
theorem d_G_requireTask_15 : decode b_G_requireTask 15 = .ok (.ldc 176, 2) := by decide +kernel
theorem d_G_requireTask_17 : decode b_G_requireTask 17 = .ok (.invokespecial 85, 3) := by decide +kernel
theorem d_G_requireTask_20 : decode b_G_requireTask 20 = .ok (.athrow, 1) := by decide +kernel
theorem d_G_requireTask_21 : decode b_G_requireTask 21 = .ok (.return_, 1) := by decide +kernel
theorem d_G_requireSpan_0 : decode b_G_requireSpan 0 = .ok (.iload_n 1, 1) := by decide +kernel
theorem d_G_requireSpan_1 : decode b_G_requireSpan 1 = .ok (.ifCond .lt (14), 3) := by decide +kernel
theorem d_G_requireSpan_4 : decode b_G_requireSpan 4 = .ok (.iload_n 1, 1) := by decide +kernel
theorem d_G_requireSpan_5 : decode b_G_requireSpan 5 = .ok (.iload_n 2, 1) := by decide +kernel
theorem d_G_requireSpan_6 : decode b_G_requireSpan 6 = .ok (.if_icmp .ge (9), 3) := by decide +kernel
theorem d_G_requireSpan_9 : decode b_G_requireSpan 9 = .ok (.iload_n 2, 1) := by decide +kernel
theorem d_G_requireSpan_10 : decode b_G_requireSpan 10 = .ok (.bipush 96, 2) := by decide +kernel
theorem d_G_requireSpan_12 : decode b_G_requireSpan 12 = .ok (.if_icmp .le (13), 3) := by decide +kernel
theorem d_G_requireSpan_15 : decode b_G_requireSpan 15 = .ok (.new 44, 3) := by decide +kernel
theorem d_G_requireSpan_18 : decode b_G_requireSpan 18 = .ok (.dup, 1) := by decide +kernel
theorem d_G_requireSpan_19 : decode b_G_requireSpan 19 = .ok (.ldc 178, 2) := by decide +kernel
theorem d_G_requireSpan_21 : decode b_G_requireSpan 21 = .ok (.invokespecial 48, 3) := by decide +kernel
theorem d_G_requireSpan_24 : decode b_G_requireSpan 24 = .ok (.athrow, 1) := by decide +kernel
theorem d_G_requireSpan_25 : decode b_G_requireSpan 25 = .ok (.return_, 1) := by decide +kernel
theorem d_G_requireQuarters_0 : decode b_G_requireQuarters 0 = .ok (.iload_n 1, 1) := by decide +kernel
theorem d_G_requireQuarters_1 : decode b_G_requireQuarters 1 = .ok (.ifCond .lt (9), 3) := by decide +kernel
theorem d_G_requireQuarters_4 : decode b_G_requireQuarters 4 = .ok (.iload_n 1, 1) := by decide +kernel
theorem d_G_requireQuarters_5 : decode b_G_requireQuarters 5 = .ok (.bipush 96, 2) := by decide +kernel
theorem d_G_requireQuarters_7 : decode b_G_requireQuarters 7 = .ok (.if_icmp .le (13), 3) := by decide +kernel
theorem d_G_requireQuarters_10 : decode b_G_requireQuarters 10 = .ok (.new 44, 3) := by decide +kernel
theorem d_G_requireQuarters_13 : decode b_G_requireQuarters 13 = .ok (.dup, 1) := by decide +kernel
theorem d_G_requireQuarters_14 : decode b_G_requireQuarters 14 = .ok (.ldc 180, 2) := by decide +kernel
theorem d_G_requireQuarters_16 : decode b_G_requireQuarters 16 = .ok (.invokespecial 48, 3) := by decide +kernel
theorem d_G_requireQuarters_19 : decode b_G_requireQuarters 19 = .ok (.athrow, 1) := by decide +kernel
theorem d_G_requireQuarters_20 : decode b_G_requireQuarters 20 = .ok (.return_, 1) := by decide +kernel
theorem d_G_requirePlan_0 : decode b_G_requirePlan 0 = .ok (.aload_n 0, 1) := by decide +kernel
theorem d_G_requirePlan_1 : decode b_G_requirePlan 1 = .ok (.getfield 40, 3) := by decide +kernel
theorem d_G_requirePlan_4 : decode b_G_requirePlan 4 = .ok (.ifCond .ne (13), 3) := by decide +kernel
theorem d_G_requirePlan_7 : decode b_G_requirePlan 7 = .ok (.new 54, 3) := by decide +kernel
theorem d_G_requirePlan_10 : decode b_G_requirePlan 10 = .ok (.dup, 1) := by decide +kernel
theorem d_G_requirePlan_11 : decode b_G_requirePlan 11 = .ok (.ldc 182, 2) := by decide +kernel
theorem d_G_requirePlan_13 : decode b_G_requirePlan 13 = .ok (.invokespecial 58, 3) := by decide +kernel
theorem d_G_requirePlan_16 : decode b_G_requirePlan 16 = .ok (.athrow, 1) := by decide +kernel
theorem d_G_requirePlan_17 : decode b_G_requirePlan 17 = .ok (.return_, 1) := by decide +kernel
theorem d_G_requireRoomForSpan_0 : decode b_G_requireRoomForSpan 0 = .ok (.aload_n 0, 1) := by decide +kernel
theorem d_G_requireRoomForSpan_1 : decode b_G_requireRoomForSpan 1 = .ok (.getfield 10, 3) := by decide +kernel
theorem d_G_requireRoomForSpan_4 : decode b_G_requireRoomForSpan 4 = .ok (.getfield 78, 3) := by decide +kernel
theorem d_G_requireRoomForSpan_7 : decode b_G_requireRoomForSpan 7 = .ok (.bipush 20, 2) := by decide +kernel
theorem d_G_requireRoomForSpan_9 : decode b_G_requireRoomForSpan 9 = .ok (.if_icmp .lt (13), 3) := by decide +kernel
theorem d_G_requireRoomForSpan_12 : decode b_G_requireRoomForSpan 12 = .ok (.new 54, 3) := by decide +kernel
theorem d_G_requireRoomForSpan_15 : decode b_G_requireRoomForSpan 15 = .ok (.dup, 1) := by decide +kernel
theorem d_G_requireRoomForSpan_16 : decode b_G_requireRoomForSpan 16 = .ok (.ldc 184, 2) := by decide +kernel
theorem d_G_requireRoomForSpan_18 : decode b_G_requireRoomForSpan 18 = .ok (.invokespecial 58, 3) := by decide +kernel
theorem d_G_requireRoomForSpan_21 : decode b_G_requireRoomForSpan 21 = .ok (.athrow, 1) := by decide +kernel
theorem d_G_requireRoomForSpan_22 : decode b_G_requireRoomForSpan 22 = .ok (.return_, 1) := by decide +kernel
theorem d_G_adoptFoundPlan_0 : decode b_G_adoptFoundPlan 0 = .ok (.iconst 0, 1) := by decide +kernel
theorem d_G_adoptFoundPlan_1 : decode b_G_adoptFoundPlan 1 = .ok (.istore_n 1, 1) := by decide +kernel
theorem d_G_adoptFoundPlan_2 : decode b_G_adoptFoundPlan 2 = .ok (.iload_n 1, 1) := by decide +kernel
theorem d_G_adoptFoundPlan_3 : decode b_G_adoptFoundPlan 3 = .ok (.aload_n 0, 1) := by decide +kernel
theorem d_G_adoptFoundPlan_4 : decode b_G_adoptFoundPlan 4 = .ok (.getfield 10, 3) := by decide +kernel
theorem d_G_adoptFoundPlan_7 : decode b_G_adoptFoundPlan 7 = .ok (.getfield 86, 3) := by decide +kernel
theorem d_G_adoptFoundPlan_10 : decode b_G_adoptFoundPlan 10 = .ok (.if_icmp .ge (24), 3) := by decide +kernel
theorem d_G_adoptFoundPlan_13 : decode b_G_adoptFoundPlan 13 = .ok (.aload_n 0, 1) := by decide +kernel
theorem d_G_adoptFoundPlan_14 : decode b_G_adoptFoundPlan 14 = .ok (.getfield 23, 3) := by decide +kernel
theorem d_G_adoptFoundPlan_17 : decode b_G_adoptFoundPlan 17 = .ok (.iload_n 1, 1) := by decide +kernel
theorem d_G_adoptFoundPlan_18 : decode b_G_adoptFoundPlan 18 = .ok (.aload_n 0, 1) := by decide +kernel
theorem d_G_adoptFoundPlan_19 : decode b_G_adoptFoundPlan 19 = .ok (.getfield 19, 3) := by decide +kernel
theorem d_G_adoptFoundPlan_22 : decode b_G_adoptFoundPlan 22 = .ok (.getfield 186, 3) := by decide +kernel
theorem d_G_adoptFoundPlan_25 : decode b_G_adoptFoundPlan 25 = .ok (.iload_n 1, 1) := by decide +kernel
theorem d_G_adoptFoundPlan_26 : decode b_G_adoptFoundPlan 26 = .ok (.iaload, 1) := by decide +kernel
theorem d_G_adoptFoundPlan_27 : decode b_G_adoptFoundPlan 27 = .ok (.iastore, 1) := by decide +kernel
theorem d_G_adoptFoundPlan_28 : decode b_G_adoptFoundPlan 28 = .ok (.iinc 1 1, 3) := by decide +kernel
theorem d_G_adoptFoundPlan_31 : decode b_G_adoptFoundPlan 31 = .ok (.goto (-29), 3) := by decide +kernel
theorem d_G_adoptFoundPlan_34 : decode b_G_adoptFoundPlan 34 = .ok (.aload_n 0, 1) := by decide +kernel
theorem d_G_adoptFoundPlan_35 : decode b_G_adoptFoundPlan 35 = .ok (.iconst 1, 1) := by decide +kernel
theorem d_G_adoptFoundPlan_36 : decode b_G_adoptFoundPlan 36 = .ok (.putfield 40, 3) := by decide +kernel
theorem d_G_adoptFoundPlan_39 : decode b_G_adoptFoundPlan 39 = .ok (.aload_n 0, 1) := by decide +kernel
theorem d_G_adoptFoundPlan_40 : decode b_G_adoptFoundPlan 40 = .ok (.iconst (-1), 1) := by decide +kernel
theorem d_G_adoptFoundPlan_41 : decode b_G_adoptFoundPlan 41 = .ok (.putfield 37, 3) := by decide +kernel
theorem d_G_adoptFoundPlan_44 : decode b_G_adoptFoundPlan 44 = .ok (.return_, 1) := by decide +kernel
theorem d_G_noteChanges_0 : decode b_G_noteChanges 0 = .ok (.aload_n 0, 1) := by decide +kernel
theorem d_G_noteChanges_1 : decode b_G_noteChanges 1 = .ok (.iconst 0, 1) := by decide +kernel
theorem d_G_noteChanges_2 : decode b_G_noteChanges 2 = .ok (.putfield 30, 3) := by decide +kernel
theorem d_G_noteChanges_5 : decode b_G_noteChanges 5 = .ok (.iconst 0, 1) := by decide +kernel
theorem d_G_noteChanges_6 : decode b_G_noteChanges 6 = .ok (.istore_n 1, 1) := by decide +kernel
theorem d_G_noteChanges_7 : decode b_G_noteChanges 7 = .ok (.iload_n 1, 1) := by decide +kernel
theorem d_G_noteChanges_8 : decode b_G_noteChanges 8 = .ok (.aload_n 0, 1) := by decide +kernel
theorem d_G_noteChanges_9 : decode b_G_noteChanges 9 = .ok (.getfield 10, 3) := by decide +kernel
theorem d_G_noteChanges_12 : decode b_G_noteChanges 12 = .ok (.getfield 86, 3) := by decide +kernel
theorem d_G_noteChanges_15 : decode b_G_noteChanges 15 = .ok (.if_icmp .ge (47), 3) := by decide +kernel
theorem d_G_noteChanges_18 : decode b_G_noteChanges 18 = .ok (.aload_n 0, 1) := by decide +kernel
theorem d_G_noteChanges_19 : decode b_G_noteChanges 19 = .ok (.getfield 23, 3) := by decide +kernel
theorem d_G_noteChanges_22 : decode b_G_noteChanges 22 = .ok (.iload_n 1, 1) := by decide +kernel
theorem d_G_noteChanges_23 : decode b_G_noteChanges 23 = .ok (.iaload, 1) := by decide +kernel
theorem d_G_noteChanges_24 : decode b_G_noteChanges 24 = .ok (.aload_n 0, 1) := by decide +kernel
theorem d_G_noteChanges_25 : decode b_G_noteChanges 25 = .ok (.getfield 19, 3) := by decide +kernel
theorem d_G_noteChanges_28 : decode b_G_noteChanges 28 = .ok (.getfield 186, 3) := by decide +kernel
theorem d_G_noteChanges_31 : decode b_G_noteChanges 31 = .ok (.iload_n 1, 1) := by decide +kernel
theorem d_G_noteChanges_32 : decode b_G_noteChanges 32 = .ok (.iaload, 1) := by decide +kernel
theorem d_G_noteChanges_33 : decode b_G_noteChanges 33 = .ok (.if_icmp .eq (23), 3) := by decide +kernel
theorem d_G_noteChanges_36 : decode b_G_noteChanges 36 = .ok (.aload_n 0, 1) := by decide +kernel
theorem d_G_noteChanges_37 : decode b_G_noteChanges 37 = .ok (.getfield 27, 3) := by decide +kernel
theorem d_G_noteChanges_40 : decode b_G_noteChanges 40 = .ok (.aload_n 0, 1) := by decide +kernel
theorem d_G_noteChanges_41 : decode b_G_noteChanges 41 = .ok (.getfield 30, 3) := by decide +kernel
theorem d_G_noteChanges_44 : decode b_G_noteChanges 44 = .ok (.iload_n 1, 1) := by decide +kernel
theorem d_G_noteChanges_45 : decode b_G_noteChanges 45 = .ok (.iastore, 1) := by decide +kernel
theorem d_G_noteChanges_46 : decode b_G_noteChanges 46 = .ok (.aload_n 0, 1) := by decide +kernel
theorem d_G_noteChanges_47 : decode b_G_noteChanges 47 = .ok (.dup, 1) := by decide +kernel
theorem d_G_noteChanges_48 : decode b_G_noteChanges 48 = .ok (.getfield 30, 3) := by decide +kernel
theorem d_G_noteChanges_51 : decode b_G_noteChanges 51 = .ok (.iconst 1, 1) := by decide +kernel
theorem d_G_noteChanges_52 : decode b_G_noteChanges 52 = .ok (.iadd, 1) := by decide +kernel
theorem d_G_noteChanges_53 : decode b_G_noteChanges 53 = .ok (.putfield 30, 3) := by decide +kernel
theorem d_G_noteChanges_56 : decode b_G_noteChanges 56 = .ok (.iinc 1 1, 3) := by decide +kernel
theorem d_G_noteChanges_59 : decode b_G_noteChanges 59 = .ok (.goto (-52), 3) := by decide +kernel
theorem d_G_noteChanges_62 : decode b_G_noteChanges 62 = .ok (.return_, 1) := by decide +kernel
theorem d_G_planCost_0 : decode b_G_planCost 0 = .ok (.iconst 0, 1) := by decide +kernel
theorem d_G_planCost_1 : decode b_G_planCost 1 = .ok (.istore_n 1, 1) := by decide +kernel
theorem d_G_planCost_2 : decode b_G_planCost 2 = .ok (.iconst 0, 1) := by decide +kernel
theorem d_G_planCost_3 : decode b_G_planCost 3 = .ok (.istore_n 2, 1) := by decide +kernel
theorem d_G_planCost_4 : decode b_G_planCost 4 = .ok (.iload_n 2, 1) := by decide +kernel
theorem d_G_planCost_5 : decode b_G_planCost 5 = .ok (.aload_n 0, 1) := by decide +kernel
theorem d_G_planCost_6 : decode b_G_planCost 6 = .ok (.getfield 10, 3) := by decide +kernel
theorem d_G_planCost_9 : decode b_G_planCost 9 = .ok (.getfield 86, 3) := by decide +kernel
theorem d_G_planCost_12 : decode b_G_planCost 12 = .ok (.if_icmp .ge (22), 3) := by decide +kernel
theorem d_G_planCost_15 : decode b_G_planCost 15 = .ok (.aload_n 0, 1) := by decide +kernel
theorem d_G_planCost_16 : decode b_G_planCost 16 = .ok (.getfield 23, 3) := by decide +kernel
theorem d_G_planCost_19 : decode b_G_planCost 19 = .ok (.iload_n 2, 1) := by decide +kernel
theorem d_G_planCost_20 : decode b_G_planCost 20 = .ok (.iaload, 1) := by decide +kernel
theorem d_G_planCost_21 : decode b_G_planCost 21 = .ok (.iconst (-1), 1) := by decide +kernel
theorem d_G_planCost_22 : decode b_G_planCost 22 = .ok (.if_icmp .ne (6), 3) := by decide +kernel
theorem d_G_planCost_25 : decode b_G_planCost 25 = .ok (.iinc 1 100, 3) := by decide +kernel
theorem d_G_planCost_28 : decode b_G_planCost 28 = .ok (.iinc 2 1, 3) := by decide +kernel
theorem d_G_planCost_31 : decode b_G_planCost 31 = .ok (.goto (-27), 3) := by decide +kernel
theorem d_G_planCost_34 : decode b_G_planCost 34 = .ok (.iconst 0, 1) := by decide +kernel
theorem d_G_planCost_35 : decode b_G_planCost 35 = .ok (.istore_n 2, 1) := by decide +kernel
theorem d_G_planCost_36 : decode b_G_planCost 36 = .ok (.iload_n 2, 1) := by decide +kernel
theorem d_G_planCost_37 : decode b_G_planCost 37 = .ok (.aload_n 0, 1) := by decide +kernel
theorem d_G_planCost_38 : decode b_G_planCost 38 = .ok (.getfield 10, 3) := by decide +kernel
theorem d_G_planCost_41 : decode b_G_planCost 41 = .ok (.getfield 51, 3) := by decide +kernel
theorem d_G_planCost_44 : decode b_G_planCost 44 = .ok (.if_icmp .ge (21), 3) := by decide +kernel
theorem d_G_planCost_47 : decode b_G_planCost 47 = .ok (.aload_n 0, 1) := by decide +kernel
theorem d_G_planCost_48 : decode b_G_planCost 48 = .ok (.iload_n 2, 1) := by decide +kernel
theorem d_G_planCost_49 : decode b_G_planCost 49 = .ok (.invokevirtual 154, 3) := by decide +kernel
theorem d_G_planCost_52 : decode b_G_planCost 52 = .ok (.istore_n 3, 1) := by decide +kernel
theorem d_G_planCost_53 : decode b_G_planCost 53 = .ok (.iload_n 1, 1) := by decide +kernel
theorem d_G_planCost_54 : decode b_G_planCost 54 = .ok (.iload_n 3, 1) := by decide +kernel
theorem d_G_planCost_55 : decode b_G_planCost 55 = .ok (.iload_n 3, 1) := by decide +kernel
theorem d_G_planCost_56 : decode b_G_planCost 56 = .ok (.imul, 1) := by decide +kernel
theorem d_G_planCost_57 : decode b_G_planCost 57 = .ok (.iadd, 1) := by decide +kernel
theorem d_G_planCost_58 : decode b_G_planCost 58 = .ok (.istore_n 1, 1) := by decide +kernel
theorem d_G_planCost_59 : decode b_G_planCost 59 = .ok (.iinc 2 1, 3) := by decide +kernel
theorem d_G_planCost_62 : decode b_G_planCost 62 = .ok (.goto (-26), 3) := by decide +kernel
theorem d_G_planCost_65 : decode b_G_planCost 65 = .ok (.iload_n 1, 1) := by decide +kernel
theorem d_G_planCost_66 : decode b_G_planCost 66 = .ok (.ireturn, 1) := by decide +kernel
theorem d_G_numberOfTasks_0 : decode b_G_numberOfTasks 0 = .ok (.iconst 0, 1) := by decide +kernel
theorem d_G_numberOfTasks_1 : decode b_G_numberOfTasks 1 = .ok (.istore_n 2, 1) := by decide +kernel
theorem d_G_numberOfTasks_2 : decode b_G_numberOfTasks 2 = .ok (.iconst 0, 1) := by decide +kernel
theorem d_G_numberOfTasks_3 : decode b_G_numberOfTasks 3 = .ok (.istore_n 3, 1) := by decide +kernel
theorem d_G_numberOfTasks_4 : decode b_G_numberOfTasks 4 = .ok (.iload_n 3, 1) := by decide +kernel
theorem d_G_numberOfTasks_5 : decode b_G_numberOfTasks 5 = .ok (.aload_n 0, 1) := by decide +kernel
theorem d_G_numberOfTasks_6 : decode b_G_numberOfTasks 6 = .ok (.getfield 10, 3) := by decide +kernel
theorem d_G_numberOfTasks_9 : decode b_G_numberOfTasks 9 = .ok (.getfield 86, 3) := by decide +kernel
theorem d_G_numberOfTasks_12 : decode b_G_numberOfTasks 12 = .ok (.if_icmp .ge (22), 3) := by decide +kernel
theorem d_G_numberOfTasks_15 : decode b_G_numberOfTasks 15 = .ok (.aload_n 0, 1) := by decide +kernel
theorem d_G_numberOfTasks_16 : decode b_G_numberOfTasks 16 = .ok (.getfield 23, 3) := by decide +kernel
theorem d_G_numberOfTasks_19 : decode b_G_numberOfTasks 19 = .ok (.iload_n 3, 1) := by decide +kernel
theorem d_G_numberOfTasks_20 : decode b_G_numberOfTasks 20 = .ok (.iaload, 1) := by decide +kernel
theorem d_G_numberOfTasks_21 : decode b_G_numberOfTasks 21 = .ok (.iload_n 1, 1) := by decide +kernel
theorem d_G_numberOfTasks_22 : decode b_G_numberOfTasks 22 = .ok (.if_icmp .ne (6), 3) := by decide +kernel
theorem d_G_numberOfTasks_25 : decode b_G_numberOfTasks 25 = .ok (.iinc 2 1, 3) := by decide +kernel
theorem d_G_numberOfTasks_28 : decode b_G_numberOfTasks 28 = .ok (.iinc 3 1, 3) := by decide +kernel
theorem d_G_numberOfTasks_31 : decode b_G_numberOfTasks 31 = .ok (.goto (-27), 3) := by decide +kernel
theorem d_G_numberOfTasks_34 : decode b_G_numberOfTasks 34 = .ok (.iload_n 2, 1) := by decide +kernel
theorem d_G_numberOfTasks_35 : decode b_G_numberOfTasks 35 = .ok (.ireturn, 1) := by decide +kernel
theorem d_G_quartersOf_0 : decode b_G_quartersOf 0 = .ok (.iconst 0, 1) := by decide +kernel
theorem d_G_quartersOf_1 : decode b_G_quartersOf 1 = .ok (.istore_n 2, 1) := by decide +kernel
theorem d_G_quartersOf_2 : decode b_G_quartersOf 2 = .ok (.iconst 0, 1) := by decide +kernel
theorem d_G_quartersOf_3 : decode b_G_quartersOf 3 = .ok (.istore_n 3, 1) := by decide +kernel
theorem d_G_quartersOf_4 : decode b_G_quartersOf 4 = .ok (.iload_n 3, 1) := by decide +kernel
theorem d_G_quartersOf_5 : decode b_G_quartersOf 5 = .ok (.aload_n 0, 1) := by decide +kernel
theorem d_G_quartersOf_6 : decode b_G_quartersOf 6 = .ok (.getfield 10, 3) := by decide +kernel
theorem d_G_quartersOf_9 : decode b_G_quartersOf 9 = .ok (.getfield 86, 3) := by decide +kernel
theorem d_G_quartersOf_12 : decode b_G_quartersOf 12 = .ok (.if_icmp .ge (30), 3) := by decide +kernel
theorem d_G_quartersOf_15 : decode b_G_quartersOf 15 = .ok (.aload_n 0, 1) := by decide +kernel
theorem d_G_quartersOf_16 : decode b_G_quartersOf 16 = .ok (.getfield 23, 3) := by decide +kernel
theorem d_G_quartersOf_19 : decode b_G_quartersOf 19 = .ok (.iload_n 3, 1) := by decide +kernel
theorem d_G_quartersOf_20 : decode b_G_quartersOf 20 = .ok (.iaload, 1) := by decide +kernel
theorem d_G_quartersOf_21 : decode b_G_quartersOf 21 = .ok (.iload_n 1, 1) := by decide +kernel
theorem d_G_quartersOf_22 : decode b_G_quartersOf 22 = .ok (.if_icmp .ne (14), 3) := by decide +kernel
theorem d_G_quartersOf_25 : decode b_G_quartersOf 25 = .ok (.iload_n 2, 1) := by decide +kernel
theorem d_G_quartersOf_26 : decode b_G_quartersOf 26 = .ok (.aload_n 0, 1) := by decide +kernel
theorem d_G_quartersOf_27 : decode b_G_quartersOf 27 = .ok (.getfield 10, 3) := by decide +kernel
theorem d_G_quartersOf_30 : decode b_G_quartersOf 30 = .ok (.iload_n 3, 1) := by decide +kernel
theorem d_G_quartersOf_31 : decode b_G_quartersOf 31 = .ok (.invokevirtual 189, 3) := by decide +kernel
theorem d_G_quartersOf_34 : decode b_G_quartersOf 34 = .ok (.iadd, 1) := by decide +kernel
theorem d_G_quartersOf_35 : decode b_G_quartersOf 35 = .ok (.istore_n 2, 1) := by decide +kernel
theorem d_G_quartersOf_36 : decode b_G_quartersOf 36 = .ok (.iinc 3 1, 3) := by decide +kernel
theorem d_G_quartersOf_39 : decode b_G_quartersOf 39 = .ok (.goto (-35), 3) := by decide +kernel
theorem d_G_quartersOf_42 : decode b_G_quartersOf 42 = .ok (.iload_n 2, 1) := by decide +kernel
theorem d_G_quartersOf_43 : decode b_G_quartersOf 43 = .ok (.ireturn, 1) := by decide +kernel
theorem d_G_empties_0 : decode b_G_empties 0 = .ok (.aload_n 0, 1) := by decide +kernel
theorem d_G_empties_1 : decode b_G_empties 1 = .ok (.getfield 10, 3) := by decide +kernel
theorem d_G_empties_4 : decode b_G_empties 4 = .ok (.getfield 192, 3) := by decide +kernel
theorem d_G_empties_7 : decode b_G_empties 7 = .ok (.iload_n 1, 1) := by decide +kernel
theorem d_G_empties_8 : decode b_G_empties 8 = .ok (.baload, 1) := by decide +kernel
theorem d_G_empties_9 : decode b_G_empties 9 = .ok (.ifCond .eq (12), 3) := by decide +kernel
theorem d_G_empties_12 : decode b_G_empties 12 = .ok (.iload_n 2, 1) := by decide +kernel
theorem d_G_empties_13 : decode b_G_empties 13 = .ok (.iconst (-1), 1) := by decide +kernel
theorem d_G_empties_14 : decode b_G_empties 14 = .ok (.if_icmp .ne (7), 3) := by decide +kernel
theorem d_G_empties_17 : decode b_G_empties 17 = .ok (.iconst 1, 1) := by decide +kernel
theorem d_G_empties_18 : decode b_G_empties 18 = .ok (.goto (4), 3) := by decide +kernel
theorem d_G_empties_21 : decode b_G_empties 21 = .ok (.iconst 0, 1) := by decide +kernel
theorem d_G_empties_22 : decode b_G_empties 22 = .ok (.ireturn, 1) := by decide +kernel
theorem d_G_isUnsuited_0 : decode b_G_isUnsuited 0 = .ok (.iload_n 2, 1) := by decide +kernel
theorem d_G_isUnsuited_1 : decode b_G_isUnsuited 1 = .ok (.iconst (-1), 1) := by decide +kernel
theorem d_G_isUnsuited_2 : decode b_G_isUnsuited 2 = .ok (.if_icmp .eq (19), 3) := by decide +kernel
theorem d_G_isUnsuited_5 : decode b_G_isUnsuited 5 = .ok (.aload_n 0, 1) := by decide +kernel
theorem d_G_isUnsuited_6 : decode b_G_isUnsuited 6 = .ok (.getfield 10, 3) := by decide +kernel
theorem d_G_isUnsuited_9 : decode b_G_isUnsuited 9 = .ok (.iload_n 2, 1) := by decide +kernel
theorem d_G_isUnsuited_10 : decode b_G_isUnsuited 10 = .ok (.iload_n 1, 1) := by decide +kernel
theorem d_G_isUnsuited_11 : decode b_G_isUnsuited 11 = .ok (.invokevirtual 196, 3) := by decide +kernel
theorem d_G_isUnsuited_14 : decode b_G_isUnsuited 14 = .ok (.ifCond .ne (7), 3) := by decide +kernel
theorem d_G_isUnsuited_17 : decode b_G_isUnsuited 17 = .ok (.iconst 1, 1) := by decide +kernel
theorem d_G_isUnsuited_18 : decode b_G_isUnsuited 18 = .ok (.goto (4), 3) := by decide +kernel
theorem d_G_isUnsuited_21 : decode b_G_isUnsuited 21 = .ok (.iconst 0, 1) := by decide +kernel
theorem d_G_isUnsuited_22 : decode b_G_isUnsuited 22 = .ok (.ireturn, 1) := by decide +kernel
theorem d_G_faultOfSets_0 : decode b_G_faultOfSets 0 = .ok (.aload_n 0, 1) := by decide +kernel
theorem d_G_faultOfSets_1 : decode b_G_faultOfSets 1 = .ok (.iload_n 1, 1) := by decide +kernel
theorem d_G_faultOfSets_2 : decode b_G_faultOfSets 2 = .ok (.invokevirtual 199, 3) := by decide +kernel
theorem d_G_faultOfSets_5 : decode b_G_faultOfSets 5 = .ok (.ifCond .ne (11), 3) := by decide +kernel
theorem d_G_faultOfSets_8 : decode b_G_faultOfSets 8 = .ok (.aload_n 0, 1) := by decide +kernel
theorem d_G_faultOfSets_9 : decode b_G_faultOfSets 9 = .ok (.iload_n 2, 1) := by decide +kernel
theorem d_G_faultOfSets_10 : decode b_G_faultOfSets 10 = .ok (.invokevirtual 199, 3) := by decide +kernel
theorem d_G_faultOfSets_13 : decode b_G_faultOfSets 13 = .ok (.ifCond .eq (5), 3) := by decide +kernel
theorem d_G_faultOfSets_16 : decode b_G_faultOfSets 16 = .ok (.iconst 4, 1) := by decide +kernel
theorem d_G_faultOfSets_17 : decode b_G_faultOfSets 17 = .ok (.ireturn, 1) := by decide +kernel
theorem d_G_faultOfSets_18 : decode b_G_faultOfSets 18 = .ok (.aload_n 0, 1) := by decide +kernel
theorem d_G_faultOfSets_19 : decode b_G_faultOfSets 19 = .ok (.iload_n 1, 1) := by decide +kernel
theorem d_G_faultOfSets_20 : decode b_G_faultOfSets 20 = .ok (.invokevirtual 202, 3) := by decide +kernel
theorem d_G_faultOfSets_23 : decode b_G_faultOfSets 23 = .ok (.ifCond .ne (11), 3) := by decide +kernel
theorem d_G_faultOfSets_26 : decode b_G_faultOfSets 26 = .ok (.aload_n 0, 1) := by decide +kernel
theorem d_G_faultOfSets_27 : decode b_G_faultOfSets 27 = .ok (.iload_n 2, 1) := by decide +kernel
theorem d_G_faultOfSets_28 : decode b_G_faultOfSets 28 = .ok (.invokevirtual 202, 3) := by decide +kernel
theorem d_G_faultOfSets_31 : decode b_G_faultOfSets 31 = .ok (.ifCond .eq (5), 3) := by decide +kernel
theorem d_G_faultOfSets_34 : decode b_G_faultOfSets 34 = .ok (.iconst 5, 1) := by decide +kernel
theorem d_G_faultOfSets_35 : decode b_G_faultOfSets 35 = .ok (.ireturn, 1) := by decide +kernel
theorem d_G_faultOfSets_36 : decode b_G_faultOfSets 36 = .ok (.iconst 0, 1) := by decide +kernel
theorem d_G_faultOfSets_37 : decode b_G_faultOfSets 37 = .ok (.ireturn, 1) := by decide +kernel
theorem d_G_hasTasksTooNear_0 : decode b_G_hasTasksTooNear 0 = .ok (.iload_n 1, 1) := by decide +kernel
theorem d_G_hasTasksTooNear_1 : decode b_G_hasTasksTooNear 1 = .ok (.iconst (-1), 1) := by decide +kernel
theorem d_G_hasTasksTooNear_2 : decode b_G_hasTasksTooNear 2 = .ok (.if_icmp .ne (5), 3) := by decide +kernel
theorem d_G_hasTasksTooNear_5 : decode b_G_hasTasksTooNear 5 = .ok (.iconst 0, 1) := by decide +kernel
theorem d_G_hasTasksTooNear_6 : decode b_G_hasTasksTooNear 6 = .ok (.ireturn, 1) := by decide +kernel
theorem d_G_hasTasksTooNear_7 : decode b_G_hasTasksTooNear 7 = .ok (.iconst 0, 1) := by decide +kernel
theorem d_G_hasTasksTooNear_8 : decode b_G_hasTasksTooNear 8 = .ok (.istore_n 2, 1) := by decide +kernel
theorem d_G_hasTasksTooNear_9 : decode b_G_hasTasksTooNear 9 = .ok (.iload_n 2, 1) := by decide +kernel
theorem d_G_hasTasksTooNear_10 : decode b_G_hasTasksTooNear 10 = .ok (.aload_n 0, 1) := by decide +kernel
theorem d_G_hasTasksTooNear_11 : decode b_G_hasTasksTooNear 11 = .ok (.getfield 10, 3) := by decide +kernel
theorem d_G_hasTasksTooNear_14 : decode b_G_hasTasksTooNear 14 = .ok (.getfield 86, 3) := by decide +kernel
theorem d_G_hasTasksTooNear_17 : decode b_G_hasTasksTooNear 17 = .ok (.if_icmp .ge (64), 3) := by decide +kernel
theorem d_G_hasTasksTooNear_20 : decode b_G_hasTasksTooNear 20 = .ok (.iload_n 2, 1) := by decide +kernel
theorem d_G_hasTasksTooNear_21 : decode b_G_hasTasksTooNear 21 = .ok (.iconst 1, 1) := by decide +kernel
theorem d_G_hasTasksTooNear_22 : decode b_G_hasTasksTooNear 22 = .ok (.iadd, 1) := by decide +kernel
theorem d_G_hasTasksTooNear_23 : decode b_G_hasTasksTooNear 23 = .ok (.istore_n 3, 1) := by decide +kernel
theorem d_G_hasTasksTooNear_24 : decode b_G_hasTasksTooNear 24 = .ok (.iload_n 3, 1) := by decide +kernel
theorem d_G_hasTasksTooNear_25 : decode b_G_hasTasksTooNear 25 = .ok (.aload_n 0, 1) := by decide +kernel
theorem d_G_hasTasksTooNear_26 : decode b_G_hasTasksTooNear 26 = .ok (.getfield 10, 3) := by decide +kernel
theorem d_G_hasTasksTooNear_29 : decode b_G_hasTasksTooNear 29 = .ok (.getfield 86, 3) := by decide +kernel
theorem d_G_hasTasksTooNear_32 : decode b_G_hasTasksTooNear 32 = .ok (.if_icmp .ge (43), 3) := by decide +kernel
theorem d_G_hasTasksTooNear_35 : decode b_G_hasTasksTooNear 35 = .ok (.aload_n 0, 1) := by decide +kernel
theorem d_G_hasTasksTooNear_36 : decode b_G_hasTasksTooNear 36 = .ok (.getfield 23, 3) := by decide +kernel
theorem d_G_hasTasksTooNear_39 : decode b_G_hasTasksTooNear 39 = .ok (.iload_n 2, 1) := by decide +kernel
theorem d_G_hasTasksTooNear_40 : decode b_G_hasTasksTooNear 40 = .ok (.iaload, 1) := by decide +kernel
theorem d_G_hasTasksTooNear_41 : decode b_G_hasTasksTooNear 41 = .ok (.iload_n 1, 1) := by decide +kernel
theorem d_G_hasTasksTooNear_42 : decode b_G_hasTasksTooNear 42 = .ok (.if_icmp .ne (27), 3) := by decide +kernel
theorem d_G_hasTasksTooNear_45 : decode b_G_hasTasksTooNear 45 = .ok (.aload_n 0, 1) := by decide +kernel
theorem d_G_hasTasksTooNear_46 : decode b_G_hasTasksTooNear 46 = .ok (.getfield 23, 3) := by decide +kernel
theorem d_G_hasTasksTooNear_49 : decode b_G_hasTasksTooNear 49 = .ok (.iload_n 3, 1) := by decide +kernel
theorem d_G_hasTasksTooNear_50 : decode b_G_hasTasksTooNear 50 = .ok (.iaload, 1) := by decide +kernel
theorem d_G_hasTasksTooNear_51 : decode b_G_hasTasksTooNear 51 = .ok (.iload_n 1, 1) := by decide +kernel
theorem d_G_hasTasksTooNear_52 : decode b_G_hasTasksTooNear 52 = .ok (.if_icmp .ne (17), 3) := by decide +kernel
theorem d_G_hasTasksTooNear_55 : decode b_G_hasTasksTooNear 55 = .ok (.aload_n 0, 1) := by decide +kernel
theorem d_G_hasTasksTooNear_56 : decode b_G_hasTasksTooNear 56 = .ok (.getfield 10, 3) := by decide +kernel
theorem d_G_hasTasksTooNear_59 : decode b_G_hasTasksTooNear 59 = .ok (.iload_n 2, 1) := by decide +kernel
theorem d_G_hasTasksTooNear_60 : decode b_G_hasTasksTooNear 60 = .ok (.iload_n 3, 1) := by decide +kernel
theorem d_G_hasTasksTooNear_61 : decode b_G_hasTasksTooNear 61 = .ok (.invokevirtual 205, 3) := by decide +kernel
theorem d_G_hasTasksTooNear_64 : decode b_G_hasTasksTooNear 64 = .ok (.ifCond .eq (5), 3) := by decide +kernel
theorem d_G_hasTasksTooNear_67 : decode b_G_hasTasksTooNear 67 = .ok (.iconst 1, 1) := by decide +kernel
theorem d_G_hasTasksTooNear_68 : decode b_G_hasTasksTooNear 68 = .ok (.ireturn, 1) := by decide +kernel
theorem d_G_hasTasksTooNear_69 : decode b_G_hasTasksTooNear 69 = .ok (.iinc 3 1, 3) := by decide +kernel
theorem d_G_hasTasksTooNear_72 : decode b_G_hasTasksTooNear 72 = .ok (.goto (-48), 3) := by decide +kernel
theorem d_G_hasTasksTooNear_75 : decode b_G_hasTasksTooNear 75 = .ok (.iinc 2 1, 3) := by decide +kernel
theorem d_G_hasTasksTooNear_78 : decode b_G_hasTasksTooNear 78 = .ok (.goto (-69), 3) := by decide +kernel
theorem d_G_hasTasksTooNear_81 : decode b_G_hasTasksTooNear 81 = .ok (.iconst 0, 1) := by decide +kernel
theorem d_G_hasTasksTooNear_82 : decode b_G_hasTasksTooNear 82 = .ok (.ireturn, 1) := by decide +kernel
theorem d_G_worksTooLong_0 : decode b_G_worksTooLong 0 = .ok (.iload_n 1, 1) := by decide +kernel
theorem d_G_worksTooLong_1 : decode b_G_worksTooLong 1 = .ok (.iconst (-1), 1) := by decide +kernel
theorem d_G_worksTooLong_2 : decode b_G_worksTooLong 2 = .ok (.if_icmp .eq (22), 3) := by decide +kernel
theorem d_G_worksTooLong_5 : decode b_G_worksTooLong 5 = .ok (.aload_n 0, 1) := by decide +kernel
theorem d_G_worksTooLong_6 : decode b_G_worksTooLong 6 = .ok (.iload_n 1, 1) := by decide +kernel
theorem d_G_worksTooLong_7 : decode b_G_worksTooLong 7 = .ok (.invokevirtual 151, 3) := by decide +kernel
theorem d_G_worksTooLong_10 : decode b_G_worksTooLong 10 = .ok (.aload_n 0, 1) := by decide +kernel
theorem d_G_worksTooLong_11 : decode b_G_worksTooLong 11 = .ok (.getfield 10, 3) := by decide +kernel
theorem d_G_worksTooLong_14 : decode b_G_worksTooLong 14 = .ok (.getfield 101, 3) := by decide +kernel
theorem d_G_worksTooLong_17 : decode b_G_worksTooLong 17 = .ok (.if_icmp .le (7), 3) := by decide +kernel
theorem d_G_worksTooLong_20 : decode b_G_worksTooLong 20 = .ok (.iconst 1, 1) := by decide +kernel
theorem d_G_worksTooLong_21 : decode b_G_worksTooLong 21 = .ok (.goto (4), 3) := by decide +kernel
theorem d_G_worksTooLong_24 : decode b_G_worksTooLong 24 = .ok (.iconst 0, 1) := by decide +kernel
theorem d_G_worksTooLong_25 : decode b_G_worksTooLong 25 = .ok (.ireturn, 1) := by decide +kernel
end
section
theorem d_J_bitCount_0 : decode b_J_bitCount 0 = .ok (.iload_n 0, 1) := by decide +kernel
theorem d_J_bitCount_1 : decode b_J_bitCount 1 = .ok (.iload_n 0, 1) := by decide +kernel
theorem d_J_bitCount_2 : decode b_J_bitCount 2 = .ok (.iconst 1, 1) := by decide +kernel
theorem d_J_bitCount_3 : decode b_J_bitCount 3 = .ok (.iushr, 1) := by decide +kernel
theorem d_J_bitCount_4 : decode b_J_bitCount 4 = .ok (.ldc_w 265, 3) := by decide +kernel
theorem d_J_bitCount_7 : decode b_J_bitCount 7 = .ok (.iand, 1) := by decide +kernel
theorem d_J_bitCount_8 : decode b_J_bitCount 8 = .ok (.isub, 1) := by decide +kernel
theorem d_J_bitCount_9 : decode b_J_bitCount 9 = .ok (.istore_n 0, 1) := by decide +kernel
theorem d_J_bitCount_10 : decode b_J_bitCount 10 = .ok (.iload_n 0, 1) := by decide +kernel
theorem d_J_bitCount_11 : decode b_J_bitCount 11 = .ok (.ldc_w 266, 3) := by decide +kernel
theorem d_J_bitCount_14 : decode b_J_bitCount 14 = .ok (.iand, 1) := by decide +kernel
theorem d_J_bitCount_15 : decode b_J_bitCount 15 = .ok (.iload_n 0, 1) := by decide +kernel
theorem d_J_bitCount_16 : decode b_J_bitCount 16 = .ok (.iconst 2, 1) := by decide +kernel
theorem d_J_bitCount_17 : decode b_J_bitCount 17 = .ok (.iushr, 1) := by decide +kernel
theorem d_J_bitCount_18 : decode b_J_bitCount 18 = .ok (.ldc_w 266, 3) := by decide +kernel
theorem d_J_bitCount_21 : decode b_J_bitCount 21 = .ok (.iand, 1) := by decide +kernel
theorem d_J_bitCount_22 : decode b_J_bitCount 22 = .ok (.iadd, 1) := by decide +kernel
theorem d_J_bitCount_23 : decode b_J_bitCount 23 = .ok (.istore_n 0, 1) := by decide +kernel
theorem d_J_bitCount_24 : decode b_J_bitCount 24 = .ok (.iload_n 0, 1) := by decide +kernel
theorem d_J_bitCount_25 : decode b_J_bitCount 25 = .ok (.iload_n 0, 1) := by decide +kernel
theorem d_J_bitCount_26 : decode b_J_bitCount 26 = .ok (.iconst 4, 1) := by decide +kernel
theorem d_J_bitCount_27 : decode b_J_bitCount 27 = .ok (.iushr, 1) := by decide +kernel
theorem d_J_bitCount_28 : decode b_J_bitCount 28 = .ok (.iadd, 1) := by decide +kernel
theorem d_J_bitCount_29 : decode b_J_bitCount 29 = .ok (.ldc_w 267, 3) := by decide +kernel
theorem d_J_bitCount_32 : decode b_J_bitCount 32 = .ok (.iand, 1) := by decide +kernel
theorem d_J_bitCount_33 : decode b_J_bitCount 33 = .ok (.istore_n 0, 1) := by decide +kernel
theorem d_J_bitCount_34 : decode b_J_bitCount 34 = .ok (.iload_n 0, 1) := by decide +kernel
theorem d_J_bitCount_35 : decode b_J_bitCount 35 = .ok (.iload_n 0, 1) := by decide +kernel
theorem d_J_bitCount_36 : decode b_J_bitCount 36 = .ok (.bipush 8, 2) := by decide +kernel
theorem d_J_bitCount_38 : decode b_J_bitCount 38 = .ok (.iushr, 1) := by decide +kernel
theorem d_J_bitCount_39 : decode b_J_bitCount 39 = .ok (.iadd, 1) := by decide +kernel
theorem d_J_bitCount_40 : decode b_J_bitCount 40 = .ok (.istore_n 0, 1) := by decide +kernel
theorem d_J_bitCount_41 : decode b_J_bitCount 41 = .ok (.iload_n 0, 1) := by decide +kernel
theorem d_J_bitCount_42 : decode b_J_bitCount 42 = .ok (.iload_n 0, 1) := by decide +kernel
theorem d_J_bitCount_43 : decode b_J_bitCount 43 = .ok (.bipush 16, 2) := by decide +kernel
theorem d_J_bitCount_45 : decode b_J_bitCount 45 = .ok (.iushr, 1) := by decide +kernel
theorem d_J_bitCount_46 : decode b_J_bitCount 46 = .ok (.iadd, 1) := by decide +kernel
theorem d_J_bitCount_47 : decode b_J_bitCount 47 = .ok (.istore_n 0, 1) := by decide +kernel
theorem d_J_bitCount_48 : decode b_J_bitCount 48 = .ok (.iload_n 0, 1) := by decide +kernel
theorem d_J_bitCount_49 : decode b_J_bitCount 49 = .ok (.bipush 63, 2) := by decide +kernel
theorem d_J_bitCount_51 : decode b_J_bitCount 51 = .ok (.iand, 1) := by decide +kernel
theorem d_J_bitCount_52 : decode b_J_bitCount 52 = .ok (.ireturn, 1) := by decide +kernel
theorem d_K_max_0 : decode b_K_max 0 = .ok (.iload_n 0, 1) := by decide +kernel
theorem d_K_max_1 : decode b_K_max 1 = .ok (.iload_n 1, 1) := by decide +kernel
theorem d_K_max_2 : decode b_K_max 2 = .ok (.if_icmp .lt (7), 3) := by decide +kernel
theorem d_K_max_5 : decode b_K_max 5 = .ok (.iload_n 0, 1) := by decide +kernel
theorem d_K_max_6 : decode b_K_max 6 = .ok (.goto (4), 3) := by decide +kernel
theorem d_K_max_9 : decode b_K_max 9 = .ok (.iload_n 1, 1) := by decide +kernel
theorem d_K_max_10 : decode b_K_max 10 = .ok (.ireturn, 1) := by decide +kernel
theorem d_K_min_0 : decode b_K_min 0 = .ok (.iload_n 0, 1) := by decide +kernel
theorem d_K_min_1 : decode b_K_min 1 = .ok (.iload_n 1, 1) := by decide +kernel
theorem d_K_min_2 : decode b_K_min 2 = .ok (.if_icmp .gt (7), 3) := by decide +kernel
theorem d_K_min_5 : decode b_K_min 5 = .ok (.iload_n 0, 1) := by decide +kernel
theorem d_K_min_6 : decode b_K_min 6 = .ok (.goto (4), 3) := by decide +kernel
theorem d_K_min_9 : decode b_K_min 9 = .ok (.iload_n 1, 1) := by decide +kernel
theorem d_K_min_10 : decode b_K_min 10 = .ok (.ireturn, 1) := by decide +kernel
end
section
theorem d_S_init_0 : decode b_S_init 0 = .ok (.aload_n 0, 1) := by decide +kernel
theorem d_S_init_1 : decode b_S_init 1 = .ok (.invokespecial 3, 3) := by decide +kernel
theorem d_S_init_4 : decode b_S_init 4 = .ok (.aload_n 0, 1) := by decide +kernel
theorem d_S_init_5 : decode b_S_init 5 = .ok (.bipush 6, 2) := by decide +kernel
theorem d_S_init_7 : decode b_S_init 7 = .ok (.newarray .int, 2) := by decide +kernel
theorem d_S_init_9 : decode b_S_init 9 = .ok (.putfield 9, 3) := by decide +kernel
theorem d_S_init_12 : decode b_S_init 12 = .ok (.aload_n 0, 1) := by decide +kernel
theorem d_S_init_13 : decode b_S_init 13 = .ok (.bipush 6, 2) := by decide +kernel
theorem d_S_init_15 : decode b_S_init 15 = .ok (.newarray .int, 2) := by decide +kernel
theorem d_S_init_17 : decode b_S_init 17 = .ok (.putfield 15, 3) := by decide +kernel
theorem d_S_init_20 : decode b_S_init 20 = .ok (.aload_n 0, 1) := by decide +kernel
theorem d_S_init_21 : decode b_S_init 21 = .ok (.bipush 6, 2) := by decide +kernel
theorem d_S_init_23 : decode b_S_init 23 = .ok (.newarray .int, 2) := by decide +kernel
theorem d_S_init_25 : decode b_S_init 25 = .ok (.putfield 18, 3) := by decide +kernel
theorem d_S_init_28 : decode b_S_init 28 = .ok (.aload_n 0, 1) := by decide +kernel
theorem d_S_init_29 : decode b_S_init 29 = .ok (.bipush 6, 2) := by decide +kernel
theorem d_S_init_31 : decode b_S_init 31 = .ok (.newarray .int, 2) := by decide +kernel
theorem d_S_init_33 : decode b_S_init 33 = .ok (.putfield 21, 3) := by decide +kernel
theorem d_S_init_36 : decode b_S_init 36 = .ok (.aload_n 0, 1) := by decide +kernel
theorem d_S_init_37 : decode b_S_init 37 = .ok (.iconst 4, 1) := by decide +kernel
theorem d_S_init_38 : decode b_S_init 38 = .ok (.newarray .int, 2) := by decide +kernel
theorem d_S_init_40 : decode b_S_init 40 = .ok (.putfield 24, 3) := by decide +kernel
theorem d_S_init_43 : decode b_S_init 43 = .ok (.aload_n 0, 1) := by decide +kernel
theorem d_S_init_44 : decode b_S_init 44 = .ok (.iconst 4, 1) := by decide +kernel
theorem d_S_init_45 : decode b_S_init 45 = .ok (.newarray .int, 2) := by decide +kernel
theorem d_S_init_47 : decode b_S_init 47 = .ok (.putfield 27, 3) := by decide +kernel
theorem d_S_init_50 : decode b_S_init 50 = .ok (.aload_n 0, 1) := by decide +kernel
theorem d_S_init_51 : decode b_S_init 51 = .ok (.iconst 0, 1) := by decide +kernel
theorem d_S_init_52 : decode b_S_init 52 = .ok (.putfield 30, 3) := by decide +kernel
theorem d_S_init_55 : decode b_S_init 55 = .ok (.aload_n 0, 1) := by decide +kernel
theorem d_S_init_56 : decode b_S_init 56 = .ok (.iconst 0, 1) := by decide +kernel
theorem d_S_init_57 : decode b_S_init 57 = .ok (.putfield 34, 3) := by decide +kernel
theorem d_S_init_60 : decode b_S_init 60 = .ok (.aload_n 0, 1) := by decide +kernel
theorem d_S_init_61 : decode b_S_init 61 = .ok (.ldc 37, 2) := by decide +kernel
theorem d_S_init_63 : decode b_S_init 63 = .ok (.putfield 38, 3) := by decide +kernel
theorem d_S_init_66 : decode b_S_init 66 = .ok (.return_, 1) := by decide +kernel
theorem d_S_findAnew_0 : decode b_S_findAnew 0 = .ok (.aload_n 0, 1) := by decide +kernel
theorem d_S_findAnew_1 : decode b_S_findAnew 1 = .ok (.iconst 0, 1) := by decide +kernel
theorem d_S_findAnew_2 : decode b_S_findAnew 2 = .ok (.putfield 30, 3) := by decide +kernel
theorem d_S_findAnew_5 : decode b_S_findAnew 5 = .ok (.aload_n 0, 1) := by decide +kernel
theorem d_S_findAnew_6 : decode b_S_findAnew 6 = .ok (.iconst 1, 1) := by decide +kernel
theorem d_S_findAnew_7 : decode b_S_findAnew 7 = .ok (.putfield 34, 3) := by decide +kernel
theorem d_S_findAnew_10 : decode b_S_findAnew 10 = .ok (.aload_n 0, 1) := by decide +kernel
theorem d_S_findAnew_11 : decode b_S_findAnew 11 = .ok (.aload_n 1, 1) := by decide +kernel
theorem d_S_findAnew_12 : decode b_S_findAnew 12 = .ok (.aload_n 2, 1) := by decide +kernel
theorem d_S_findAnew_13 : decode b_S_findAnew 13 = .ok (.iconst 0, 1) := by decide +kernel
theorem d_S_findAnew_14 : decode b_S_findAnew 14 = .ok (.aload_n 1, 1) := by decide +kernel
theorem d_S_findAnew_15 : decode b_S_findAnew 15 = .ok (.getfield 41, 3) := by decide +kernel
theorem d_S_findAnew_18 : decode b_S_findAnew 18 = .ok (.invokevirtual 46, 3) := by decide +kernel
theorem d_S_findAnew_21 : decode b_S_findAnew 21 = .ok (.ireturn, 1) := by decide +kernel
theorem d_S_findNearest_0 : decode b_S_findNearest 0 = .ok (.aload_n 0, 1) := by decide +kernel
theorem d_S_findNearest_1 : decode b_S_findNearest 1 = .ok (.sipush 1000, 3) := by decide +kernel
theorem d_S_findNearest_4 : decode b_S_findNearest 4 = .ok (.putfield 30, 3) := by decide +kernel
theorem d_S_findNearest_7 : decode b_S_findNearest 7 = .ok (.aload_n 0, 1) := by decide +kernel
theorem d_S_findNearest_8 : decode b_S_findNearest 8 = .ok (.iconst 1, 1) := by decide +kernel
theorem d_S_findNearest_9 : decode b_S_findNearest 9 = .ok (.putfield 34, 3) := by decide +kernel
theorem d_S_findNearest_12 : decode b_S_findNearest 12 = .ok (.aload_n 0, 1) := by decide +kernel
theorem d_S_findNearest_13 : decode b_S_findNearest 13 = .ok (.aload_n 1, 1) := by decide +kernel
theorem d_S_findNearest_14 : decode b_S_findNearest 14 = .ok (.aload_n 2, 1) := by decide +kernel
theorem d_S_findNearest_15 : decode b_S_findNearest 15 = .ok (.iload_n 3, 1) := by decide +kernel
theorem d_S_findNearest_16 : decode b_S_findNearest 16 = .ok (.aload_n 1, 1) := by decide +kernel
theorem d_S_findNearest_17 : decode b_S_findNearest 17 = .ok (.getfield 41, 3) := by decide +kernel
theorem d_S_findNearest_20 : decode b_S_findNearest 20 = .ok (.invokevirtual 46, 3) := by decide +kernel
theorem d_S_findNearest_23 : decode b_S_findNearest 23 = .ok (.ireturn, 1) := by decide +kernel
theorem d_S_firstLacking_0 : decode b_S_firstLacking 0 = .ok (.aload_n 0, 1) := by decide +kernel
theorem d_S_firstLacking_1 : decode b_S_firstLacking 1 = .ok (.iconst 0, 1) := by decide +kernel
theorem d_S_firstLacking_2 : decode b_S_firstLacking 2 = .ok (.putfield 30, 3) := by decide +kernel
theorem d_S_firstLacking_5 : decode b_S_firstLacking 5 = .ok (.aload_n 0, 1) := by decide +kernel
theorem d_S_firstLacking_6 : decode b_S_firstLacking 6 = .ok (.iconst 0, 1) := by decide +kernel
theorem d_S_firstLacking_7 : decode b_S_firstLacking 7 = .ok (.putfield 34, 3) := by decide +kernel
theorem d_S_firstLacking_10 : decode b_S_firstLacking 10 = .ok (.iconst 0, 1) := by decide +kernel
theorem d_S_firstLacking_11 : decode b_S_firstLacking 11 = .ok (.istore 4, 2) := by decide +kernel
theorem d_S_firstLacking_13 : decode b_S_firstLacking 13 = .ok (.iload 4, 2) := by decide +kernel
theorem d_S_firstLacking_15 : decode b_S_firstLacking 15 = .ok (.aload_n 1, 1) := by decide +kernel
theorem d_S_firstLacking_16 : decode b_S_firstLacking 16 = .ok (.getfield 41, 3) := by decide +kernel
theorem d_S_firstLacking_19 : decode b_S_firstLacking 19 = .ok (.if_icmp .ge (41), 3) := by decide +kernel
theorem d_S_firstLacking_22 : decode b_S_firstLacking 22 = .ok (.aload_n 1, 1) := by decide +kernel
theorem d_S_firstLacking_23 : decode b_S_firstLacking 23 = .ok (.getfield 50, 3) := by decide +kernel
theorem d_S_firstLacking_26 : decode b_S_firstLacking 26 = .ok (.iload 4, 2) := by decide +kernel
theorem d_S_firstLacking_28 : decode b_S_firstLacking 28 = .ok (.baload, 1) := by decide +kernel
theorem d_S_firstLacking_29 : decode b_S_firstLacking 29 = .ok (.ifCond .eq (25), 3) := by decide +kernel
theorem d_S_firstLacking_32 : decode b_S_firstLacking 32 = .ok (.aload_n 0, 1) := by decide +kernel
theorem d_S_firstLacking_33 : decode b_S_firstLacking 33 = .ok (.aload_n 1, 1) := by decide +kernel
theorem d_S_firstLacking_34 : decode b_S_firstLacking 34 = .ok (.aload_n 2, 1) := by decide +kernel
theorem d_S_firstLacking_35 : decode b_S_firstLacking 35 = .ok (.iload_n 3, 1) := by decide +kernel
theorem d_S_firstLacking_36 : decode b_S_firstLacking 36 = .ok (.iload 4, 2) := by decide +kernel
theorem d_S_firstLacking_38 : decode b_S_firstLacking 38 = .ok (.iconst 1, 1) := by decide +kernel
theorem d_S_firstLacking_39 : decode b_S_firstLacking 39 = .ok (.iadd, 1) := by decide +kernel
theorem d_S_firstLacking_40 : decode b_S_firstLacking 40 = .ok (.invokevirtual 46, 3) := by decide +kernel
theorem d_S_firstLacking_43 : decode b_S_firstLacking 43 = .ok (.ifCond .ne (11), 3) := by decide +kernel
theorem d_S_firstLacking_46 : decode b_S_firstLacking 46 = .ok (.aload_n 1, 1) := by decide +kernel
theorem d_S_firstLacking_47 : decode b_S_firstLacking 47 = .ok (.getfield 54, 3) := by decide +kernel
theorem d_S_firstLacking_50 : decode b_S_firstLacking 50 = .ok (.iload 4, 2) := by decide +kernel
theorem d_S_firstLacking_52 : decode b_S_firstLacking 52 = .ok (.iaload, 1) := by decide +kernel
theorem d_S_firstLacking_53 : decode b_S_firstLacking 53 = .ok (.ireturn, 1) := by decide +kernel
theorem d_S_firstLacking_54 : decode b_S_firstLacking 54 = .ok (.iinc 4 1, 3) := by decide +kernel
theorem d_S_firstLacking_57 : decode b_S_firstLacking 57 = .ok (.goto (-44), 3) := by decide +kernel
theorem d_S_firstLacking_60 : decode b_S_firstLacking 60 = .ok (.iconst (-1), 1) := by decide +kernel
theorem d_S_firstLacking_61 : decode b_S_firstLacking 61 = .ok (.ireturn, 1) := by decide +kernel
theorem d_S_find_0 : decode b_S_find 0 = .ok (.iconst 0, 1) := by decide +kernel
theorem d_S_find_1 : decode b_S_find 1 = .ok (.istore 5, 2) := by decide +kernel
theorem d_S_find_3 : decode b_S_find 3 = .ok (.iload 5, 2) := by decide +kernel
theorem d_S_find_5 : decode b_S_find 5 = .ok (.aload_n 1, 1) := by decide +kernel
theorem d_S_find_6 : decode b_S_find 6 = .ok (.getfield 41, 3) := by decide +kernel
theorem d_S_find_9 : decode b_S_find 9 = .ok (.if_icmp .ge (123), 3) := by decide +kernel
theorem d_S_find_12 : decode b_S_find 12 = .ok (.aload_n 1, 1) := by decide +kernel
theorem d_S_find_13 : decode b_S_find 13 = .ok (.getfield 50, 3) := by decide +kernel
theorem d_S_find_16 : decode b_S_find 16 = .ok (.iload 5, 2) := by decide +kernel
theorem d_S_find_18 : decode b_S_find 18 = .ok (.baload, 1) := by decide +kernel
theorem d_S_find_19 : decode b_S_find 19 = .ok (.ifCond .eq (10), 3) := by decide +kernel
theorem d_S_find_22 : decode b_S_find 22 = .ok (.iload 5, 2) := by decide +kernel
theorem d_S_find_24 : decode b_S_find 24 = .ok (.iload 4, 2) := by decide +kernel
theorem d_S_find_26 : decode b_S_find 26 = .ok (.if_icmp .lt (7), 3) := by decide +kernel
theorem d_S_find_29 : decode b_S_find 29 = .ok (.iconst 1, 1) := by decide +kernel
theorem d_S_find_30 : decode b_S_find 30 = .ok (.goto (4), 3) := by decide +kernel
theorem d_S_find_33 : decode b_S_find 33 = .ok (.iconst 0, 1) := by decide +kernel
theorem d_S_find_34 : decode b_S_find 34 = .ok (.istore 6, 2) := by decide +kernel
theorem d_S_find_36 : decode b_S_find 36 = .ok (.aload_n 1, 1) := by decide +kernel
theorem d_S_find_37 : decode b_S_find 37 = .ok (.getfield 54, 3) := by decide +kernel
theorem d_S_find_40 : decode b_S_find 40 = .ok (.iload 5, 2) := by decide +kernel
theorem d_S_find_42 : decode b_S_find 42 = .ok (.iaload, 1) := by decide +kernel
theorem d_S_find_43 : decode b_S_find 43 = .ok (.iload_n 3, 1) := by decide +kernel
theorem d_S_find_44 : decode b_S_find 44 = .ok (.if_icmp .ge (7), 3) := by decide +kernel
theorem d_S_find_47 : decode b_S_find 47 = .ok (.iconst 1, 1) := by decide +kernel
theorem d_S_find_48 : decode b_S_find 48 = .ok (.goto (4), 3) := by decide +kernel
theorem d_S_find_51 : decode b_S_find 51 = .ok (.iconst 0, 1) := by decide +kernel
theorem d_S_find_52 : decode b_S_find 52 = .ok (.istore 7, 2) := by decide +kernel
theorem d_S_find_54 : decode b_S_find 54 = .ok (.aload_n 0, 1) := by decide +kernel
theorem d_S_find_55 : decode b_S_find 55 = .ok (.getfield 18, 3) := by decide +kernel
theorem d_S_find_58 : decode b_S_find 58 = .ok (.iload 5, 2) := by decide +kernel
theorem d_S_find_60 : decode b_S_find 60 = .ok (.iload 7, 2) := by decide +kernel
theorem d_S_find_62 : decode b_S_find 62 = .ok (.ifCond .eq (14), 3) := by decide +kernel
theorem d_S_find_65 : decode b_S_find 65 = .ok (.aload_n 0, 1) := by decide +kernel
theorem d_S_find_66 : decode b_S_find 66 = .ok (.aload_n 2, 1) := by decide +kernel
theorem d_S_find_67 : decode b_S_find 67 = .ok (.iload 5, 2) := by decide +kernel
theorem d_S_find_69 : decode b_S_find 69 = .ok (.iaload, 1) := by decide +kernel
theorem d_S_find_70 : decode b_S_find 70 = .ok (.invokevirtual 57, 3) := by decide +kernel
theorem d_S_find_73 : decode b_S_find 73 = .ok (.goto (16), 3) := by decide +kernel
theorem d_S_find_76 : decode b_S_find 76 = .ok (.aload_n 0, 1) := by decide +kernel
theorem d_S_find_77 : decode b_S_find 77 = .ok (.aload_n 1, 1) := by decide +kernel
theorem d_S_find_78 : decode b_S_find 78 = .ok (.iload 5, 2) := by decide +kernel
theorem d_S_find_80 : decode b_S_find 80 = .ok (.invokevirtual 61, 3) := by decide +kernel
theorem d_S_find_83 : decode b_S_find 83 = .ok (.aload_n 0, 1) := by decide +kernel
theorem d_S_find_84 : decode b_S_find 84 = .ok (.iconst (-1), 1) := by decide +kernel
theorem d_S_find_85 : decode b_S_find 85 = .ok (.invokevirtual 57, 3) := by decide +kernel
theorem d_S_find_88 : decode b_S_find 88 = .ok (.ior, 1) := by decide +kernel
theorem d_S_find_89 : decode b_S_find 89 = .ok (.iastore, 1) := by decide +kernel
theorem d_S_find_90 : decode b_S_find 90 = .ok (.iload 6, 2) := by decide +kernel
theorem d_S_find_92 : decode b_S_find 92 = .ok (.ifCond .ne (20), 3) := by decide +kernel
theorem d_S_find_95 : decode b_S_find 95 = .ok (.aload_n 0, 1) := by decide +kernel
theorem d_S_find_96 : decode b_S_find 96 = .ok (.getfield 18, 3) := by decide +kernel
theorem d_S_find_99 : decode b_S_find 99 = .ok (.iload 5, 2) := by decide +kernel
theorem d_S_find_101 : decode b_S_find 101 = .ok (.dup2, 1) := by decide +kernel
theorem d_S_find_102 : decode b_S_find 102 = .ok (.iaload, 1) := by decide +kernel
theorem d_S_find_103 : decode b_S_find 103 = .ok (.aload_n 0, 1) := by decide +kernel
theorem d_S_find_104 : decode b_S_find 104 = .ok (.iconst (-1), 1) := by decide +kernel
theorem d_S_find_105 : decode b_S_find 105 = .ok (.invokevirtual 57, 3) := by decide +kernel
theorem d_S_find_108 : decode b_S_find 108 = .ok (.iconst (-1), 1) := by decide +kernel
theorem d_S_find_109 : decode b_S_find 109 = .ok (.ixor, 1) := by decide +kernel
theorem d_S_find_110 : decode b_S_find 110 = .ok (.iand, 1) := by decide +kernel
theorem d_S_find_111 : decode b_S_find 111 = .ok (.iastore, 1) := by decide +kernel
theorem d_S_find_112 : decode b_S_find 112 = .ok (.aload_n 0, 1) := by decide +kernel
theorem d_S_find_113 : decode b_S_find 113 = .ok (.getfield 21, 3) := by decide +kernel
theorem d_S_find_116 : decode b_S_find 116 = .ok (.iload 5, 2) := by decide +kernel
theorem d_S_find_118 : decode b_S_find 118 = .ok (.aload_n 0, 1) := by decide +kernel
theorem d_S_find_119 : decode b_S_find 119 = .ok (.aload_n 1, 1) := by decide +kernel
theorem d_S_find_120 : decode b_S_find 120 = .ok (.iload 5, 2) := by decide +kernel
theorem d_S_find_122 : decode b_S_find 122 = .ok (.invokevirtual 65, 3) := by decide +kernel
theorem d_S_find_125 : decode b_S_find 125 = .ok (.iastore, 1) := by decide +kernel
theorem d_S_find_126 : decode b_S_find 126 = .ok (.iinc 5 1, 3) := by decide +kernel
theorem d_S_find_129 : decode b_S_find 129 = .ok (.goto (-126), 3) := by decide +kernel
theorem d_S_find_132 : decode b_S_find 132 = .ok (.iconst 0, 1) := by decide +kernel
theorem d_S_find_133 : decode b_S_find 133 = .ok (.istore 5, 2) := by decide +kernel
theorem d_S_find_135 : decode b_S_find 135 = .ok (.iload 5, 2) := by decide +kernel
theorem d_S_find_137 : decode b_S_find 137 = .ok (.iconst 4, 1) := by decide +kernel
theorem d_S_find_138 : decode b_S_find 138 = .ok (.if_icmp .ge (25), 3) := by decide +kernel
theorem d_S_find_141 : decode b_S_find 141 = .ok (.aload_n 0, 1) := by decide +kernel
theorem d_S_find_142 : decode b_S_find 142 = .ok (.getfield 24, 3) := by decide +kernel
theorem d_S_find_145 : decode b_S_find 145 = .ok (.iload 5, 2) := by decide +kernel
theorem d_S_find_147 : decode b_S_find 147 = .ok (.iconst 0, 1) := by decide +kernel
theorem d_S_find_148 : decode b_S_find 148 = .ok (.iastore, 1) := by decide +kernel
theorem d_S_find_149 : decode b_S_find 149 = .ok (.aload_n 0, 1) := by decide +kernel
theorem d_S_find_150 : decode b_S_find 150 = .ok (.getfield 27, 3) := by decide +kernel
theorem d_S_find_153 : decode b_S_find 153 = .ok (.iload 5, 2) := by decide +kernel
theorem d_S_find_155 : decode b_S_find 155 = .ok (.iconst 0, 1) := by decide +kernel
theorem d_S_find_156 : decode b_S_find 156 = .ok (.iastore, 1) := by decide +kernel
theorem d_S_find_157 : decode b_S_find 157 = .ok (.iinc 5 1, 3) := by decide +kernel
theorem d_S_find_160 : decode b_S_find 160 = .ok (.goto (-25), 3) := by decide +kernel
theorem d_S_find_163 : decode b_S_find 163 = .ok (.aload_n 0, 1) := by decide +kernel
theorem d_S_find_164 : decode b_S_find 164 = .ok (.ldc 37, 2) := by decide +kernel
theorem d_S_find_166 : decode b_S_find 166 = .ok (.putfield 38, 3) := by decide +kernel
theorem d_S_find_169 : decode b_S_find 169 = .ok (.aload_n 0, 1) := by decide +kernel
theorem d_S_find_170 : decode b_S_find 170 = .ok (.aload_n 1, 1) := by decide +kernel
theorem d_S_find_171 : decode b_S_find 171 = .ok (.aload_n 2, 1) := by decide +kernel
theorem d_S_find_172 : decode b_S_find 172 = .ok (.iconst 0, 1) := by decide +kernel
theorem d_S_find_173 : decode b_S_find 173 = .ok (.iconst 0, 1) := by decide +kernel
theorem d_S_find_174 : decode b_S_find 174 = .ok (.invokevirtual 68, 3) := by decide +kernel
theorem d_S_find_177 : decode b_S_find 177 = .ok (.aload_n 0, 1) := by decide +kernel
theorem d_S_find_178 : decode b_S_find 178 = .ok (.getfield 38, 3) := by decide +kernel
theorem d_S_find_181 : decode b_S_find 181 = .ok (.ldc 37, 2) := by decide +kernel
theorem d_S_find_183 : decode b_S_find 183 = .ok (.if_icmp .ge (7), 3) := by decide +kernel
theorem d_S_find_186 : decode b_S_find 186 = .ok (.iconst 1, 1) := by decide +kernel
theorem d_S_find_187 : decode b_S_find 187 = .ok (.goto (4), 3) := by decide +kernel
theorem d_S_find_190 : decode b_S_find 190 = .ok (.iconst 0, 1) := by decide +kernel
theorem d_S_find_191 : decode b_S_find 191 = .ok (.ireturn, 1) := by decide +kernel
theorem d_S_bitOf_0 : decode b_S_bitOf 0 = .ok (.iconst 1, 1) := by decide +kernel
theorem d_S_bitOf_1 : decode b_S_bitOf 1 = .ok (.iload_n 1, 1) := by decide +kernel
theorem d_S_bitOf_2 : decode b_S_bitOf 2 = .ok (.iconst (-1), 1) := by decide +kernel
theorem d_S_bitOf_3 : decode b_S_bitOf 3 = .ok (.if_icmp .ne (7), 3) := by decide +kernel
theorem d_S_bitOf_6 : decode b_S_bitOf 6 = .ok (.iconst 4, 1) := by decide +kernel
theorem d_S_bitOf_7 : decode b_S_bitOf 7 = .ok (.goto (4), 3) := by decide +kernel
theorem d_S_bitOf_10 : decode b_S_bitOf 10 = .ok (.iload_n 1, 1) := by decide +kernel
theorem d_S_bitOf_11 : decode b_S_bitOf 11 = .ok (.ishl, 1) := by decide +kernel
theorem d_S_bitOf_12 : decode b_S_bitOf 12 = .ok (.ireturn, 1) := by decide +kernel
theorem d_S_bitsOfSuiting_0 : decode b_S_bitsOfSuiting 0 = .ok (.iconst 0, 1) := by decide +kernel
theorem d_S_bitsOfSuiting_1 : decode b_S_bitsOfSuiting 1 = .ok (.istore_n 3, 1) := by decide +kernel
theorem d_S_bitsOfSuiting_2 : decode b_S_bitsOfSuiting 2 = .ok (.iconst 0, 1) := by decide +kernel
theorem d_S_bitsOfSuiting_3 : decode b_S_bitsOfSuiting 3 = .ok (.istore 4, 2) := by decide +kernel
theorem d_S_bitsOfSuiting_5 : decode b_S_bitsOfSuiting 5 = .ok (.iload 4, 2) := by decide +kernel
theorem d_S_bitsOfSuiting_7 : decode b_S_bitsOfSuiting 7 = .ok (.aload_n 1, 1) := by decide +kernel
theorem d_S_bitsOfSuiting_8 : decode b_S_bitsOfSuiting 8 = .ok (.getfield 72, 3) := by decide +kernel
theorem d_S_bitsOfSuiting_11 : decode b_S_bitsOfSuiting 11 = .ok (.if_icmp .ge (28), 3) := by decide +kernel
theorem d_S_bitsOfSuiting_14 : decode b_S_bitsOfSuiting 14 = .ok (.aload_n 1, 1) := by decide +kernel
theorem d_S_bitsOfSuiting_15 : decode b_S_bitsOfSuiting 15 = .ok (.iload 4, 2) := by decide +kernel
theorem d_S_bitsOfSuiting_17 : decode b_S_bitsOfSuiting 17 = .ok (.iload_n 2, 1) := by decide +kernel
theorem d_S_bitsOfSuiting_18 : decode b_S_bitsOfSuiting 18 = .ok (.invokevirtual 75, 3) := by decide +kernel
theorem d_S_bitsOfSuiting_21 : decode b_S_bitsOfSuiting 21 = .ok (.ifCond .eq (12), 3) := by decide +kernel
theorem d_S_bitsOfSuiting_24 : decode b_S_bitsOfSuiting 24 = .ok (.iload_n 3, 1) := by decide +kernel
theorem d_S_bitsOfSuiting_25 : decode b_S_bitsOfSuiting 25 = .ok (.aload_n 0, 1) := by decide +kernel
theorem d_S_bitsOfSuiting_26 : decode b_S_bitsOfSuiting 26 = .ok (.iload 4, 2) := by decide +kernel
theorem d_S_bitsOfSuiting_28 : decode b_S_bitsOfSuiting 28 = .ok (.invokevirtual 57, 3) := by decide +kernel
theorem d_S_bitsOfSuiting_31 : decode b_S_bitsOfSuiting 31 = .ok (.ior, 1) := by decide +kernel
theorem d_S_bitsOfSuiting_32 : decode b_S_bitsOfSuiting 32 = .ok (.istore_n 3, 1) := by decide +kernel
theorem d_S_bitsOfSuiting_33 : decode b_S_bitsOfSuiting 33 = .ok (.iinc 4 1, 3) := by decide +kernel
theorem d_S_bitsOfSuiting_36 : decode b_S_bitsOfSuiting 36 = .ok (.goto (-31), 3) := by decide +kernel
theorem d_S_bitsOfSuiting_39 : decode b_S_bitsOfSuiting 39 = .ok (.iload_n 3, 1) := by decide +kernel
theorem d_S_bitsOfSuiting_40 : decode b_S_bitsOfSuiting 40 = .ok (.ireturn, 1) := by decide +kernel
theorem d_S_bitsOfTooNear_0 : decode b_S_bitsOfTooNear 0 = .ok (.iconst 0, 1) := by decide +kernel
theorem d_S_bitsOfTooNear_1 : decode b_S_bitsOfTooNear 1 = .ok (.istore_n 3, 1) := by decide +kernel
theorem d_S_bitsOfTooNear_2 : decode b_S_bitsOfTooNear 2 = .ok (.iconst 0, 1) := by decide +kernel
theorem d_S_bitsOfTooNear_3 : decode b_S_bitsOfTooNear 3 = .ok (.istore 4, 2) := by decide +kernel
theorem d_S_bitsOfTooNear_5 : decode b_S_bitsOfTooNear 5 = .ok (.iload 4, 2) := by decide +kernel
theorem d_S_bitsOfTooNear_7 : decode b_S_bitsOfTooNear 7 = .ok (.aload_n 1, 1) := by decide +kernel
theorem d_S_bitsOfTooNear_8 : decode b_S_bitsOfTooNear 8 = .ok (.getfield 41, 3) := by decide +kernel
theorem d_S_bitsOfTooNear_11 : decode b_S_bitsOfTooNear 11 = .ok (.if_icmp .ge (32), 3) := by decide +kernel
theorem d_S_bitsOfTooNear_14 : decode b_S_bitsOfTooNear 14 = .ok (.iload 4, 2) := by decide +kernel
theorem d_S_bitsOfTooNear_16 : decode b_S_bitsOfTooNear 16 = .ok (.iload_n 2, 1) := by decide +kernel
theorem d_S_bitsOfTooNear_17 : decode b_S_bitsOfTooNear 17 = .ok (.if_icmp .eq (20), 3) := by decide +kernel
theorem d_S_bitsOfTooNear_20 : decode b_S_bitsOfTooNear 20 = .ok (.aload_n 1, 1) := by decide +kernel
theorem d_S_bitsOfTooNear_21 : decode b_S_bitsOfTooNear 21 = .ok (.iload 4, 2) := by decide +kernel
theorem d_S_bitsOfTooNear_23 : decode b_S_bitsOfTooNear 23 = .ok (.iload_n 2, 1) := by decide +kernel
theorem d_S_bitsOfTooNear_24 : decode b_S_bitsOfTooNear 24 = .ok (.invokevirtual 79, 3) := by decide +kernel
theorem d_S_bitsOfTooNear_27 : decode b_S_bitsOfTooNear 27 = .ok (.ifCond .eq (10), 3) := by decide +kernel
theorem d_S_bitsOfTooNear_30 : decode b_S_bitsOfTooNear 30 = .ok (.iload_n 3, 1) := by decide +kernel
theorem d_S_bitsOfTooNear_31 : decode b_S_bitsOfTooNear 31 = .ok (.iconst 1, 1) := by decide +kernel
theorem d_S_bitsOfTooNear_32 : decode b_S_bitsOfTooNear 32 = .ok (.iload 4, 2) := by decide +kernel
theorem d_S_bitsOfTooNear_34 : decode b_S_bitsOfTooNear 34 = .ok (.ishl, 1) := by decide +kernel
theorem d_S_bitsOfTooNear_35 : decode b_S_bitsOfTooNear 35 = .ok (.ior, 1) := by decide +kernel
theorem d_S_bitsOfTooNear_36 : decode b_S_bitsOfTooNear 36 = .ok (.istore_n 3, 1) := by decide +kernel
theorem d_S_bitsOfTooNear_37 : decode b_S_bitsOfTooNear 37 = .ok (.iinc 4 1, 3) := by decide +kernel
theorem d_S_bitsOfTooNear_40 : decode b_S_bitsOfTooNear 40 = .ok (.goto (-35), 3) := by decide +kernel
theorem d_S_bitsOfTooNear_43 : decode b_S_bitsOfTooNear 43 = .ok (.iload_n 3, 1) := by decide +kernel
theorem d_S_bitsOfTooNear_44 : decode b_S_bitsOfTooNear 44 = .ok (.ireturn, 1) := by decide +kernel
theorem d_S_place_0 : decode b_S_place 0 = .ok (.iload 4, 2) := by decide +kernel
theorem d_S_place_2 : decode b_S_place 2 = .ok (.aload_n 0, 1) := by decide +kernel
theorem d_S_place_3 : decode b_S_place 3 = .ok (.getfield 34, 3) := by decide +kernel
theorem d_S_place_6 : decode b_S_place 6 = .ok (.aload_n 1, 1) := by decide +kernel
theorem d_S_place_7 : decode b_S_place 7 = .ok (.getfield 41, 3) := by decide +kernel
theorem d_S_place_10 : decode b_S_place 10 = .ok (.iload_n 3, 1) := by decide +kernel
theorem d_S_place_11 : decode b_S_place 11 = .ok (.isub, 1) := by decide +kernel
theorem d_S_place_12 : decode b_S_place 12 = .ok (.imul, 1) := by decide +kernel
theorem d_S_place_13 : decode b_S_place 13 = .ok (.iadd, 1) := by decide +kernel
theorem d_S_place_14 : decode b_S_place 14 = .ok (.aload_n 0, 1) := by decide +kernel
theorem d_S_place_15 : decode b_S_place 15 = .ok (.getfield 38, 3) := by decide +kernel
theorem d_S_place_18 : decode b_S_place 18 = .ok (.if_icmp .lt (4), 3) := by decide +kernel
theorem d_S_place_21 : decode b_S_place 21 = .ok (.return_, 1) := by decide +kernel
theorem d_S_place_22 : decode b_S_place 22 = .ok (.iload_n 3, 1) := by decide +kernel
theorem d_S_place_23 : decode b_S_place 23 = .ok (.aload_n 1, 1) := by decide +kernel
theorem d_S_place_24 : decode b_S_place 24 = .ok (.getfield 41, 3) := by decide +kernel
theorem d_S_place_27 : decode b_S_place 27 = .ok (.if_icmp .lt (14), 3) := by decide +kernel
theorem d_S_place_30 : decode b_S_place 30 = .ok (.aload_n 0, 1) := by decide +kernel
theorem d_S_place_31 : decode b_S_place 31 = .ok (.aload_n 1, 1) := by decide +kernel
theorem d_S_place_32 : decode b_S_place 32 = .ok (.getfield 41, 3) := by decide +kernel
theorem d_S_place_35 : decode b_S_place 35 = .ok (.iload 4, 2) := by decide +kernel
theorem d_S_place_37 : decode b_S_place 37 = .ok (.invokevirtual 82, 3) := by decide +kernel
theorem d_S_place_40 : decode b_S_place 40 = .ok (.return_, 1) := by decide +kernel
theorem d_S_place_41 : decode b_S_place 41 = .ok (.iconst 0, 1) := by decide +kernel
theorem d_S_place_42 : decode b_S_place 42 = .ok (.istore 5, 2) := by decide +kernel
theorem d_S_place_44 : decode b_S_place 44 = .ok (.iload 5, 2) := by decide +kernel
theorem d_S_place_46 : decode b_S_place 46 = .ok (.aload_n 1, 1) := by decide +kernel
theorem d_S_place_47 : decode b_S_place 47 = .ok (.getfield 72, 3) := by decide +kernel
theorem d_S_place_50 : decode b_S_place 50 = .ok (.if_icmp .ge (31), 3) := by decide +kernel
theorem d_S_place_53 : decode b_S_place 53 = .ok (.aload_n 0, 1) := by decide +kernel
theorem d_S_place_54 : decode b_S_place 54 = .ok (.aload_n 1, 1) := by decide +kernel
theorem d_S_place_55 : decode b_S_place 55 = .ok (.iload 5, 2) := by decide +kernel
theorem d_S_place_57 : decode b_S_place 57 = .ok (.iload_n 3, 1) := by decide +kernel
theorem d_S_place_58 : decode b_S_place 58 = .ok (.invokevirtual 86, 3) := by decide +kernel
theorem d_S_place_61 : decode b_S_place 61 = .ok (.ifCond .eq (14), 3) := by decide +kernel
theorem d_S_place_64 : decode b_S_place 64 = .ok (.aload_n 0, 1) := by decide +kernel
theorem d_S_place_65 : decode b_S_place 65 = .ok (.aload_n 1, 1) := by decide +kernel
theorem d_S_place_66 : decode b_S_place 66 = .ok (.aload_n 2, 1) := by decide +kernel
theorem d_S_place_67 : decode b_S_place 67 = .ok (.iload_n 3, 1) := by decide +kernel
theorem d_S_place_68 : decode b_S_place 68 = .ok (.iload 4, 2) := by decide +kernel
theorem d_S_place_70 : decode b_S_place 70 = .ok (.iload 5, 2) := by decide +kernel
theorem d_S_place_72 : decode b_S_place 72 = .ok (.invokevirtual 90, 3) := by decide +kernel
theorem d_S_place_75 : decode b_S_place 75 = .ok (.iinc 5 1, 3) := by decide +kernel
theorem d_S_place_78 : decode b_S_place 78 = .ok (.goto (-34), 3) := by decide +kernel
theorem d_S_place_81 : decode b_S_place 81 = .ok (.aload_n 0, 1) := by decide +kernel
theorem d_S_place_82 : decode b_S_place 82 = .ok (.getfield 18, 3) := by decide +kernel
theorem d_S_place_85 : decode b_S_place 85 = .ok (.iload_n 3, 1) := by decide +kernel
theorem d_S_place_86 : decode b_S_place 86 = .ok (.iaload, 1) := by decide +kernel
theorem d_S_place_87 : decode b_S_place 87 = .ok (.aload_n 0, 1) := by decide +kernel
theorem d_S_place_88 : decode b_S_place 88 = .ok (.iconst (-1), 1) := by decide +kernel
theorem d_S_place_89 : decode b_S_place 89 = .ok (.invokevirtual 57, 3) := by decide +kernel
theorem d_S_place_92 : decode b_S_place 92 = .ok (.iand, 1) := by decide +kernel
theorem d_S_place_93 : decode b_S_place 93 = .ok (.ifCond .eq (32), 3) := by decide +kernel
theorem d_S_place_96 : decode b_S_place 96 = .ok (.aload_n 0, 1) := by decide +kernel
theorem d_S_place_97 : decode b_S_place 97 = .ok (.getfield 15, 3) := by decide +kernel
theorem d_S_place_100 : decode b_S_place 100 = .ok (.iload_n 3, 1) := by decide +kernel
theorem d_S_place_101 : decode b_S_place 101 = .ok (.iconst (-1), 1) := by decide +kernel
theorem d_S_place_102 : decode b_S_place 102 = .ok (.iastore, 1) := by decide +kernel
theorem d_S_place_103 : decode b_S_place 103 = .ok (.aload_n 0, 1) := by decide +kernel
theorem d_S_place_104 : decode b_S_place 104 = .ok (.aload_n 1, 1) := by decide +kernel
theorem d_S_place_105 : decode b_S_place 105 = .ok (.aload_n 2, 1) := by decide +kernel
theorem d_S_place_106 : decode b_S_place 106 = .ok (.iload_n 3, 1) := by decide +kernel
theorem d_S_place_107 : decode b_S_place 107 = .ok (.iconst 1, 1) := by decide +kernel
theorem d_S_place_108 : decode b_S_place 108 = .ok (.iadd, 1) := by decide +kernel
theorem d_S_place_109 : decode b_S_place 109 = .ok (.iload 4, 2) := by decide +kernel
theorem d_S_place_111 : decode b_S_place 111 = .ok (.aload_n 0, 1) := by decide +kernel
theorem d_S_place_112 : decode b_S_place 112 = .ok (.aload_n 2, 1) := by decide +kernel
theorem d_S_place_113 : decode b_S_place 113 = .ok (.iload_n 3, 1) := by decide +kernel
theorem d_S_place_114 : decode b_S_place 114 = .ok (.iaload, 1) := by decide +kernel
theorem d_S_place_115 : decode b_S_place 115 = .ok (.iconst (-1), 1) := by decide +kernel
theorem d_S_place_116 : decode b_S_place 116 = .ok (.bipush 100, 2) := by decide +kernel
theorem d_S_place_118 : decode b_S_place 118 = .ok (.invokevirtual 94, 3) := by decide +kernel
theorem d_S_place_121 : decode b_S_place 121 = .ok (.iadd, 1) := by decide +kernel
theorem d_S_place_122 : decode b_S_place 122 = .ok (.invokevirtual 68, 3) := by decide +kernel
theorem d_S_place_125 : decode b_S_place 125 = .ok (.return_, 1) := by decide +kernel
theorem d_S_mayTake_0 : decode b_S_mayTake 0 = .ok (.aload_n 0, 1) := by decide +kernel
theorem d_S_mayTake_1 : decode b_S_mayTake 1 = .ok (.getfield 18, 3) := by decide +kernel
theorem d_S_mayTake_4 : decode b_S_mayTake 4 = .ok (.iload_n 3, 1) := by decide +kernel
theorem d_S_mayTake_5 : decode b_S_mayTake 5 = .ok (.iaload, 1) := by decide +kernel
theorem d_S_mayTake_6 : decode b_S_mayTake 6 = .ok (.aload_n 0, 1) := by decide +kernel
theorem d_S_mayTake_7 : decode b_S_mayTake 7 = .ok (.iload_n 2, 1) := by decide +kernel
theorem d_S_mayTake_8 : decode b_S_mayTake 8 = .ok (.invokevirtual 57, 3) := by decide +kernel
theorem d_S_mayTake_11 : decode b_S_mayTake 11 = .ok (.iand, 1) := by decide +kernel
theorem d_S_mayTake_12 : decode b_S_mayTake 12 = .ok (.ifCond .eq (42), 3) := by decide +kernel
theorem d_S_mayTake_15 : decode b_S_mayTake 15 = .ok (.aload_n 0, 1) := by decide +kernel
theorem d_S_mayTake_16 : decode b_S_mayTake 16 = .ok (.getfield 21, 3) := by decide +kernel
theorem d_S_mayTake_19 : decode b_S_mayTake 19 = .ok (.iload_n 3, 1) := by decide +kernel
theorem d_S_mayTake_20 : decode b_S_mayTake 20 = .ok (.iaload, 1) := by decide +kernel
theorem d_S_mayTake_21 : decode b_S_mayTake 21 = .ok (.aload_n 0, 1) := by decide +kernel
theorem d_S_mayTake_22 : decode b_S_mayTake 22 = .ok (.getfield 24, 3) := by decide +kernel
theorem d_S_mayTake_25 : decode b_S_mayTake 25 = .ok (.iload_n 2, 1) := by decide +kernel
theorem d_S_mayTake_26 : decode b_S_mayTake 26 = .ok (.iaload, 1) := by decide +kernel
theorem d_S_mayTake_27 : decode b_S_mayTake 27 = .ok (.iand, 1) := by decide +kernel
theorem d_S_mayTake_28 : decode b_S_mayTake 28 = .ok (.ifCond .ne (26), 3) := by decide +kernel
theorem d_S_mayTake_31 : decode b_S_mayTake 31 = .ok (.aload_n 0, 1) := by decide +kernel
theorem d_S_mayTake_32 : decode b_S_mayTake 32 = .ok (.getfield 27, 3) := by decide +kernel
theorem d_S_mayTake_35 : decode b_S_mayTake 35 = .ok (.iload_n 2, 1) := by decide +kernel
theorem d_S_mayTake_36 : decode b_S_mayTake 36 = .ok (.iaload, 1) := by decide +kernel
theorem d_S_mayTake_37 : decode b_S_mayTake 37 = .ok (.aload_n 1, 1) := by decide +kernel
theorem d_S_mayTake_38 : decode b_S_mayTake 38 = .ok (.iload_n 3, 1) := by decide +kernel
theorem d_S_mayTake_39 : decode b_S_mayTake 39 = .ok (.invokevirtual 98, 3) := by decide +kernel
theorem d_S_mayTake_42 : decode b_S_mayTake 42 = .ok (.iadd, 1) := by decide +kernel
theorem d_S_mayTake_43 : decode b_S_mayTake 43 = .ok (.aload_n 1, 1) := by decide +kernel
theorem d_S_mayTake_44 : decode b_S_mayTake 44 = .ok (.getfield 101, 3) := by decide +kernel
theorem d_S_mayTake_47 : decode b_S_mayTake 47 = .ok (.if_icmp .gt (7), 3) := by decide +kernel
theorem d_S_mayTake_50 : decode b_S_mayTake 50 = .ok (.iconst 1, 1) := by decide +kernel
theorem d_S_mayTake_51 : decode b_S_mayTake 51 = .ok (.goto (4), 3) := by decide +kernel
theorem d_S_mayTake_54 : decode b_S_mayTake 54 = .ok (.iconst 0, 1) := by decide +kernel
theorem d_S_mayTake_55 : decode b_S_mayTake 55 = .ok (.ireturn, 1) := by decide +kernel
theorem d_S_placePerson_0 : decode b_S_placePerson 0 = .ok (.aload_n 0, 1) := by decide +kernel
theorem d_S_placePerson_1 : decode b_S_placePerson 1 = .ok (.getfield 24, 3) := by decide +kernel
theorem d_S_placePerson_4 : decode b_S_placePerson 4 = .ok (.iload 5, 2) := by decide +kernel
theorem d_S_placePerson_6 : decode b_S_placePerson 6 = .ok (.iaload, 1) := by decide +kernel
theorem d_S_placePerson_7 : decode b_S_placePerson 7 = .ok (.invokestatic 104, 3) := by decide +kernel
theorem d_S_placePerson_10 : decode b_S_placePerson 10 = .ok (.istore 6, 2) := by decide +kernel
theorem d_S_placePerson_12 : decode b_S_placePerson 12 = .ok (.iconst 2, 1) := by decide +kernel
theorem d_S_placePerson_13 : decode b_S_placePerson 13 = .ok (.iload 6, 2) := by decide +kernel
theorem d_S_placePerson_15 : decode b_S_placePerson 15 = .ok (.imul, 1) := by decide +kernel
theorem d_S_placePerson_16 : decode b_S_placePerson 16 = .ok (.iconst 1, 1) := by decide +kernel
theorem d_S_placePerson_17 : decode b_S_placePerson 17 = .ok (.iadd, 1) := by decide +kernel
theorem d_S_placePerson_18 : decode b_S_placePerson 18 = .ok (.istore 7, 2) := by decide +kernel
theorem d_S_placePerson_20 : decode b_S_placePerson 20 = .ok (.aload_n 0, 1) := by decide +kernel
theorem d_S_placePerson_21 : decode b_S_placePerson 21 = .ok (.getfield 15, 3) := by decide +kernel
theorem d_S_placePerson_24 : decode b_S_placePerson 24 = .ok (.iload_n 3, 1) := by decide +kernel
theorem d_S_placePerson_25 : decode b_S_placePerson 25 = .ok (.iload 5, 2) := by decide +kernel
theorem d_S_placePerson_27 : decode b_S_placePerson 27 = .ok (.iastore, 1) := by decide +kernel
theorem d_S_placePerson_28 : decode b_S_placePerson 28 = .ok (.aload_n 0, 1) := by decide +kernel
theorem d_S_placePerson_29 : decode b_S_placePerson 29 = .ok (.getfield 24, 3) := by decide +kernel
theorem d_S_placePerson_32 : decode b_S_placePerson 32 = .ok (.iload 5, 2) := by decide +kernel
theorem d_S_placePerson_34 : decode b_S_placePerson 34 = .ok (.dup2, 1) := by decide +kernel
theorem d_S_placePerson_35 : decode b_S_placePerson 35 = .ok (.iaload, 1) := by decide +kernel
theorem d_S_placePerson_36 : decode b_S_placePerson 36 = .ok (.iconst 1, 1) := by decide +kernel
theorem d_S_placePerson_37 : decode b_S_placePerson 37 = .ok (.iload_n 3, 1) := by decide +kernel
theorem d_S_placePerson_38 : decode b_S_placePerson 38 = .ok (.ishl, 1) := by decide +kernel
theorem d_S_placePerson_39 : decode b_S_placePerson 39 = .ok (.ior, 1) := by decide +kernel
theorem d_S_placePerson_40 : decode b_S_placePerson 40 = .ok (.iastore, 1) := by decide +kernel
theorem d_S_placePerson_41 : decode b_S_placePerson 41 = .ok (.aload_n 0, 1) := by decide +kernel
theorem d_S_placePerson_42 : decode b_S_placePerson 42 = .ok (.getfield 27, 3) := by decide +kernel
theorem d_S_placePerson_45 : decode b_S_placePerson 45 = .ok (.iload 5, 2) := by decide +kernel
theorem d_S_placePerson_47 : decode b_S_placePerson 47 = .ok (.dup2, 1) := by decide +kernel
theorem d_S_placePerson_48 : decode b_S_placePerson 48 = .ok (.iaload, 1) := by decide +kernel
theorem d_S_placePerson_49 : decode b_S_placePerson 49 = .ok (.aload_n 1, 1) := by decide +kernel
theorem d_S_placePerson_50 : decode b_S_placePerson 50 = .ok (.iload_n 3, 1) := by decide +kernel
theorem d_S_placePerson_51 : decode b_S_placePerson 51 = .ok (.invokevirtual 98, 3) := by decide +kernel
theorem d_S_placePerson_54 : decode b_S_placePerson 54 = .ok (.iadd, 1) := by decide +kernel
theorem d_S_placePerson_55 : decode b_S_placePerson 55 = .ok (.iastore, 1) := by decide +kernel
theorem d_S_placePerson_56 : decode b_S_placePerson 56 = .ok (.aload_n 0, 1) := by decide +kernel
theorem d_S_placePerson_57 : decode b_S_placePerson 57 = .ok (.aload_n 1, 1) := by decide +kernel
theorem d_S_placePerson_58 : decode b_S_placePerson 58 = .ok (.aload_n 2, 1) := by decide +kernel
theorem d_S_placePerson_59 : decode b_S_placePerson 59 = .ok (.iload_n 3, 1) := by decide +kernel
theorem d_S_placePerson_60 : decode b_S_placePerson 60 = .ok (.iconst 1, 1) := by decide +kernel
theorem d_S_placePerson_61 : decode b_S_placePerson 61 = .ok (.iadd, 1) := by decide +kernel
theorem d_S_placePerson_62 : decode b_S_placePerson 62 = .ok (.iload 4, 2) := by decide +kernel
theorem d_S_placePerson_64 : decode b_S_placePerson 64 = .ok (.aload_n 0, 1) := by decide +kernel
theorem d_S_placePerson_65 : decode b_S_placePerson 65 = .ok (.aload_n 2, 1) := by decide +kernel
theorem d_S_placePerson_66 : decode b_S_placePerson 66 = .ok (.iload_n 3, 1) := by decide +kernel
theorem d_S_placePerson_67 : decode b_S_placePerson 67 = .ok (.iaload, 1) := by decide +kernel
theorem d_S_placePerson_68 : decode b_S_placePerson 68 = .ok (.iload 5, 2) := by decide +kernel
theorem d_S_placePerson_70 : decode b_S_placePerson 70 = .ok (.iload 7, 2) := by decide +kernel
theorem d_S_placePerson_72 : decode b_S_placePerson 72 = .ok (.invokevirtual 94, 3) := by decide +kernel
theorem d_S_placePerson_75 : decode b_S_placePerson 75 = .ok (.iadd, 1) := by decide +kernel
theorem d_S_placePerson_76 : decode b_S_placePerson 76 = .ok (.invokevirtual 68, 3) := by decide +kernel
theorem d_S_placePerson_79 : decode b_S_placePerson 79 = .ok (.aload_n 0, 1) := by decide +kernel
theorem d_S_placePerson_80 : decode b_S_placePerson 80 = .ok (.getfield 24, 3) := by decide +kernel
theorem d_S_placePerson_83 : decode b_S_placePerson 83 = .ok (.iload 5, 2) := by decide +kernel
theorem d_S_placePerson_85 : decode b_S_placePerson 85 = .ok (.dup2, 1) := by decide +kernel
theorem d_S_placePerson_86 : decode b_S_placePerson 86 = .ok (.iaload, 1) := by decide +kernel
theorem d_S_placePerson_87 : decode b_S_placePerson 87 = .ok (.iconst 1, 1) := by decide +kernel
theorem d_S_placePerson_88 : decode b_S_placePerson 88 = .ok (.iload_n 3, 1) := by decide +kernel
theorem d_S_placePerson_89 : decode b_S_placePerson 89 = .ok (.ishl, 1) := by decide +kernel
theorem d_S_placePerson_90 : decode b_S_placePerson 90 = .ok (.iconst (-1), 1) := by decide +kernel
theorem d_S_placePerson_91 : decode b_S_placePerson 91 = .ok (.ixor, 1) := by decide +kernel
theorem d_S_placePerson_92 : decode b_S_placePerson 92 = .ok (.iand, 1) := by decide +kernel
theorem d_S_placePerson_93 : decode b_S_placePerson 93 = .ok (.iastore, 1) := by decide +kernel
theorem d_S_placePerson_94 : decode b_S_placePerson 94 = .ok (.aload_n 0, 1) := by decide +kernel
theorem d_S_placePerson_95 : decode b_S_placePerson 95 = .ok (.getfield 27, 3) := by decide +kernel
theorem d_S_placePerson_98 : decode b_S_placePerson 98 = .ok (.iload 5, 2) := by decide +kernel
theorem d_S_placePerson_100 : decode b_S_placePerson 100 = .ok (.dup2, 1) := by decide +kernel
theorem d_S_placePerson_101 : decode b_S_placePerson 101 = .ok (.iaload, 1) := by decide +kernel
theorem d_S_placePerson_102 : decode b_S_placePerson 102 = .ok (.aload_n 1, 1) := by decide +kernel
theorem d_S_placePerson_103 : decode b_S_placePerson 103 = .ok (.iload_n 3, 1) := by decide +kernel
theorem d_S_placePerson_104 : decode b_S_placePerson 104 = .ok (.invokevirtual 98, 3) := by decide +kernel
theorem d_S_placePerson_107 : decode b_S_placePerson 107 = .ok (.isub, 1) := by decide +kernel
theorem d_S_placePerson_108 : decode b_S_placePerson 108 = .ok (.iastore, 1) := by decide +kernel
theorem d_S_placePerson_109 : decode b_S_placePerson 109 = .ok (.return_, 1) := by decide +kernel
theorem d_S_weightOf_0 : decode b_S_weightOf 0 = .ok (.aload_n 0, 1) := by decide +kernel
theorem d_S_weightOf_1 : decode b_S_weightOf 1 = .ok (.getfield 34, 3) := by decide +kernel
theorem d_S_weightOf_4 : decode b_S_weightOf 4 = .ok (.iload_n 3, 1) := by decide +kernel
theorem d_S_weightOf_5 : decode b_S_weightOf 5 = .ok (.imul, 1) := by decide +kernel
theorem d_S_weightOf_6 : decode b_S_weightOf 6 = .ok (.istore 4, 2) := by decide +kernel
theorem d_S_weightOf_8 : decode b_S_weightOf 8 = .ok (.iload_n 1, 1) := by decide +kernel
theorem d_S_weightOf_9 : decode b_S_weightOf 9 = .ok (.iload_n 2, 1) := by decide +kernel
theorem d_S_weightOf_10 : decode b_S_weightOf 10 = .ok (.if_icmp .ne (8), 3) := by decide +kernel
theorem d_S_weightOf_13 : decode b_S_weightOf 13 = .ok (.iload 4, 2) := by decide +kernel
theorem d_S_weightOf_15 : decode b_S_weightOf 15 = .ok (.goto (10), 3) := by decide +kernel
theorem d_S_weightOf_18 : decode b_S_weightOf 18 = .ok (.iload 4, 2) := by decide +kernel
theorem d_S_weightOf_20 : decode b_S_weightOf 20 = .ok (.aload_n 0, 1) := by decide +kernel
theorem d_S_weightOf_21 : decode b_S_weightOf 21 = .ok (.getfield 30, 3) := by decide +kernel
theorem d_S_weightOf_24 : decode b_S_weightOf 24 = .ok (.iadd, 1) := by decide +kernel
theorem d_S_weightOf_25 : decode b_S_weightOf 25 = .ok (.ireturn, 1) := by decide +kernel
theorem d_S_keepTrial_0 : decode b_S_keepTrial 0 = .ok (.iconst 0, 1) := by decide +kernel
theorem d_S_keepTrial_1 : decode b_S_keepTrial 1 = .ok (.istore_n 3, 1) := by decide +kernel
theorem d_S_keepTrial_2 : decode b_S_keepTrial 2 = .ok (.iload_n 3, 1) := by decide +kernel
theorem d_S_keepTrial_3 : decode b_S_keepTrial 3 = .ok (.iload_n 1, 1) := by decide +kernel
theorem d_S_keepTrial_4 : decode b_S_keepTrial 4 = .ok (.if_icmp .ge (21), 3) := by decide +kernel
theorem d_S_keepTrial_7 : decode b_S_keepTrial 7 = .ok (.aload_n 0, 1) := by decide +kernel
theorem d_S_keepTrial_8 : decode b_S_keepTrial 8 = .ok (.getfield 9, 3) := by decide +kernel
theorem d_S_keepTrial_11 : decode b_S_keepTrial 11 = .ok (.iload_n 3, 1) := by decide +kernel
theorem d_S_keepTrial_12 : decode b_S_keepTrial 12 = .ok (.aload_n 0, 1) := by decide +kernel
theorem d_S_keepTrial_13 : decode b_S_keepTrial 13 = .ok (.getfield 15, 3) := by decide +kernel
theorem d_S_keepTrial_16 : decode b_S_keepTrial 16 = .ok (.iload_n 3, 1) := by decide +kernel
theorem d_S_keepTrial_17 : decode b_S_keepTrial 17 = .ok (.iaload, 1) := by decide +kernel
theorem d_S_keepTrial_18 : decode b_S_keepTrial 18 = .ok (.iastore, 1) := by decide +kernel
theorem d_S_keepTrial_19 : decode b_S_keepTrial 19 = .ok (.iinc 3 1, 3) := by decide +kernel
theorem d_S_keepTrial_22 : decode b_S_keepTrial 22 = .ok (.goto (-20), 3) := by decide +kernel
theorem d_S_keepTrial_25 : decode b_S_keepTrial 25 = .ok (.aload_n 0, 1) := by decide +kernel
theorem d_S_keepTrial_26 : decode b_S_keepTrial 26 = .ok (.iload_n 2, 1) := by decide +kernel
theorem d_S_keepTrial_27 : decode b_S_keepTrial 27 = .ok (.putfield 38, 3) := by decide +kernel
theorem d_S_keepTrial_30 : decode b_S_keepTrial 30 = .ok (.return_, 1) := by decide +kernel
end
section
/-! ===== rows of ours over the kit: contracts that read, contracts that write, over one world taken whole ===== -/
abbrev gp_E : Type := va_G × ClassId × ClassId × (Nat → Nat)
def gp_ty (E : gp_E) : List (ClassId × FieldType) := [(E.2.1, .int), (E.2.2.1, .boolean)]
abbrev gp_rm (k mc ms : Nat) : Room := { frames := k, cells := mc, slots := ms, locals := 40 * k }
def gp_p0 (E : gp_E) (w : va_W) (U : State) : Prop := va_P E.1 gp_cl w U.heap ∧ va_K E.1 gp_cl (gp_ty E) U
def gp_p1 (E : gp_E) (w : va_W) (sz : Nat) (U : State) : Prop := U.heap.size = sz ∧ va_P E.1 gp_cl w U.heap ∧ va_K E.1 gp_cl (gp_ty E) U ∧ va_D (fun _ => True) w
def gp_QW (E : gp_E) (v : Option Value) (w w' : va_W) (sz : Nat) : Array Value → State → Outcome → State → Prop := fun _ st o t => o = .returned v ∧ va_P E.1 gp_cl w' t.heap ∧ va_F (va_A w sz) st t
/-- a method that reads: it answers r, the heap stays -/
def gp_CR (l : Launch) (y : MethodName) (cc : ByteArray) (maxL : Nat) (ret : Option FieldType) (k : Nat) (E : gp_E) (w : va_W) (av : List Value) (r : Int32) : Prop :=
  Met l y (.code y cc maxL ret :: gw) (gp_rm k 0 0) (va_Pc av (gp_p0 E w)) (QcRead r) 0 0 (fun _ => False)
/-- a method that writes: it answers v, the world w becomes w' -/
def gp_CW (l : Launch) (y : MethodName) (cc : ByteArray) (maxL : Nat) (ret : Option FieldType) (k : Nat) (E : gp_E) (w w' : va_W) (av : List Value) (v : Option Value) : Prop :=
  ∀ sz : Nat, Met l y (.code y cc maxL ret :: gw) (gp_rm k 0 0) (va_Pc av (gp_p1 E w sz)) (gp_QW E v w w' sz) 0 0 (va_A w sz)
theorem gp_b0 {E : gp_E} {w : va_W} {av : List Value} : FrameBlind (va_Pc av (gp_p0 E w)) := fun a U g mk q => by
  obtain ⟨q0, qP, qK⟩ := q
  exact ⟨q0, qP, va_K.moved (u := U) (U := U.calling g mk a) (Vm.Alike.refl U.vm) qK⟩
theorem gp_b1 {E : gp_E} {w : va_W} {sz : Nat} {av : List Value} : FrameBlind (va_Pc av (gp_p1 E w sz)) := fun a U g mk q => by
  obtain ⟨q0, q1, qP, qK, qD⟩ := q
  exact ⟨q0, q1, qP, va_K.moved (u := U) (U := U.calling g mk a) (Vm.Alike.refl U.vm) qK, qD⟩
theorem gp_free {A0 : Nat → Prop} {w : va_W} {H0 H : Heap} {locs : List Loc} (hD : va_D A0 w) (hS : va_S A0 H0 H locs) (hA : ∀ q, H0.size ≤ q → A0 q) : ∀ q, va_A w H.size q → A0 q := by
  intro q h
  rcases h with ⟨k, e, h⟩ | h
  · exact hD.2 k (q, e) h
  · exact hA q (Nat.le_trans hS.1 h)
/-- the same addresses: as far apart -/
theorem gp_dd {A : Nat → Prop} {w w' : va_W} (h : va_D A w) (e : w.map (fun q => q.1) = w'.map (fun q => q.1)) : va_D A w' := by
  have key : ∀ (k : Nat) (q : Nat × va_E), w'[k]? = some q → ∃ q2, w[k]? = some q2 ∧ q2.1 = q.1 := by
    intro k q hq
    have h1 : (w'.map (fun q => q.1))[k]? = some q.1 := by rw [List.getElem?_map, hq]; rfl
    rw [← e, List.getElem?_map] at h1
    cases h2 : w[k]? with
    | none => rw [h2] at h1; cases h1
    | some q2 => rw [h2] at h1; exact ⟨q2, rfl, Option.some.inj h1⟩
  refine ⟨fun i j x y hx hy hxy => ?_, fun k q hq => ?_⟩
  · obtain ⟨x2, a1, a2⟩ := key i x hx
    obtain ⟨y2, b1, b2⟩ := key j y hy
    exact h.1 i j x2 y2 a1 b1 (by rw [a2, b2, hxy])
  · obtain ⟨q2, a1, a2⟩ := key k q hq
    rw [← a2]
    exact h.2 k q2 a1
theorem gw_V {own C : String} {idx : Nat} {y : MethodName} {cc : ByteArray} {maxL : Nat} {ret : Option FieldType} (h1 : Cond.methodLink own idx y ∈ gw) (h2 : Cond.instanceMethod y ∈ gw) (h3 : Cond.selects C y y ∈ gw) (h4 : Cond.initialized C ∈ gw) (h5 : Cond.code y cc maxL ret ∈ gw) : GoodIn gw (wsV own idx C y (.code y cc maxL ret :: gw)) := by
  intro w hw
  refine gw_good w ?_
  simp only [wsV, List.mem_append, List.mem_cons, List.not_mem_nil, or_false] at hw
  rcases hw with (rfl | rfl | rfl | rfl) | rfl | h
  · exact h1
  · exact h2
  · exact h3
  · exact h4
  · exact h5
  · exact h
theorem gw_c {y : MethodName} {cc : ByteArray} {maxL : Nat} {ret : Option FieldType} (h5 : Cond.code y cc maxL ret ∈ gw) : GoodIn gw (.code y cc maxL ret :: gw) := by
  intro w hw
  refine gw_good w ?_
  rcases List.mem_cons.mp hw with rfl | h
  · exact h5
  · exact h
section GpB
variable {l : Launch} {y : MethodName} {cc : ByteArray} {maxL : Nat} {ret : Option FieldType} {k : Nat} {E : gp_E} {w w' : va_W} {av : List Value} {r : Int32} {v : Option Value}
theorem gp_ofR (hy : plainName y.cls = true) (hlen : (lg_sl av).length ≤ maxL)
    (body : ∀ (p : Program) (e : Env) (s : State) (m : MethodId) (below : List Frame) (meth : Method) (c : Code) (ls : Array Slot), p.tables.exec = Jvm.exec → c.code = cc → meth.sig.returnType = ret → (∀ x ∈ gw, x.before av.toArray s = true) → s.vm.findClass y.cls = some m.cls → meth.locks = false → c.maxLocals = maxL →
      va_P E.1 gp_cl w s.heap → va_K E.1 gp_cl (gp_ty E) s → lv_has ls maxL (lv_args 0 av) →
      W p l e (gp_rm k 0 0) s m av.toArray below meth c s.heap [] 0 0 (MQ below (QcRead r) av.toArray s 0 0 (fun _ => False)) (F0 m 0 ls [])) : gp_CR l y cc maxL ret k E w av r := by
  refine Met.ofW (cc := cc) (maxL := maxL) (ret := ret) hy rfl ?_
  intro p e s m args below meth c s₁ B hml hv
  obtain ⟨rfl, hP, hK⟩ := hv
  have hts := atoms_spec (ws := .code y cc maxL ret :: gw) B.pre
  have hl := lv_entry av (n := maxL) hlen
  rw [lg_entry_eq]
  generalize (lg_sl av ++ List.replicate (maxL - (lg_sl av).length) Slot.unset).toArray = ls at hl ⊢
  exact body p e s m below meth c ls B.exec B.bytes B.returns (fun x h => hts x (List.mem_cons_of_mem _ h)) (findClass_of_methodNamed B.named) B.notSynchronized hml hP hK hl
theorem gp_ofW (hy : plainName y.cls = true) (hlen : (lg_sl av).length ≤ maxL)
    (body : ∀ (p : Program) (e : Env) (s : State) (m : MethodId) (below : List Frame) (meth : Method) (c : Code) (ls : Array Slot) (A : Nat → Prop), p.tables.exec = Jvm.exec → c.code = cc → meth.sig.returnType = ret → (∀ x ∈ gw, x.before av.toArray s = true) → s.vm.findClass y.cls = some m.cls → meth.locks = false → c.maxLocals = maxL →
      va_P E.1 gp_cl w s.heap → va_K E.1 gp_cl (gp_ty E) s → va_D A w → (∀ q, s.heap.size ≤ q → A q) → va_A w s.heap.size = A → lv_has ls maxL (lv_args 0 av) →
      W p l e (gp_rm k 0 0) s m av.toArray below meth c s.heap [] 0 0 (MQ below (gp_QW E v w w' s.heap.size) av.toArray s 0 0 A) (F0 m 0 ls [])) : gp_CW l y cc maxL ret k E w w' av v := by
  intro sz
  refine Met.ofW (cc := cc) (maxL := maxL) (ret := ret) hy rfl ?_
  intro p e s m args below meth c s₁ B hml hv
  obtain ⟨rfl, hsz, hP, hK, hD0⟩ := hv
  subst hsz
  have hts := atoms_spec (ws := .code y cc maxL ret :: gw) B.pre
  have hl := lv_entry av (n := maxL) hlen
  rw [lg_entry_eq]
  generalize (lg_sl av ++ List.replicate (maxL - (lg_sl av).length) Slot.unset).toArray = ls at hl ⊢
  exact body p e s m below meth c ls (va_A w s.heap.size) B.exec B.bytes B.returns (fun x h => hts x (List.mem_cons_of_mem _ h)) (findClass_of_methodNamed B.named) B.notSynchronized hml hP hK hD0.self (fun q h => Or.inr h) rfl hl
end GpB
section GpC
variable {p : Program} {l : Launch} {e : Env} {R : Room} {s : State} {m : MethodId} {args : Array Value} {below : List Frame} {meth : Method} {c : Code} {H : Heap} {locs : List Loc} {cells slots : Nat} {Q : State → Prop}
variable {y : MethodName} {bytes cc : ByteArray} {maxL nL n index k : Nat} {ret : Option FieldType} {own : String} {b : Addr} {As rest st0 : List Value} {pc : Nat} {ls : Array Slot}
variable {E : gp_E} {w w' : va_W} {A0 : Nat → Prop} {r : Int32} {v : Option Value}
theorem gp_s0 {av : List Value} (hK : va_K E.1 gp_cl (gp_ty E) s) (hP : va_P E.1 gp_cl w H) : ∀ U : State, U.heap = H → s.WarmedH U.vm → va_Pc av (gp_p0 E w) av.toArray U := fun U hU hW => ⟨rfl, by rw [hU]; exact hP, va_K.moved hW.alike hK⟩
theorem gp_s1 {av : List Value} (hK : va_K E.1 gp_cl (gp_ty E) s) (hP : va_P E.1 gp_cl w H) (hD : va_D A0 w) : ∀ U : State, U.heap = H → s.WarmedH U.vm → va_Pc av (gp_p1 E w H.size) av.toArray U := fun U hU hW => ⟨rfl, by rw [hU], by rw [hU]; exact hP, va_K.moved hW.alike hK, hD.weaken (fun _ _ _ _ => trivial)⟩
/-- a virtual call of a method that reads -/
theorem gp_cR {q0 ci : Nat} {r0 : vw_C} {fs : List Value} (F : CallFix p m c cc nL s args gw own) (hM : gp_CR l y bytes maxL ret k E w (.ref b :: As) r)
    (cw : CallW R s args own r0.1 index y bytes maxL ret (.code y bytes maxL ret :: gw) (gp_rm k 0 0) 0 0 n) (hK : va_K E.1 gp_cl (gp_ty E) s) (hP : va_P E.1 gp_cl w H)
    (hc : gp_cl[ci]? = some r0) (he : w[q0]? = some (b, .inr (ci, fs))) (hn : As.length = n) (hsize : ls.size = nL) (hstack : st0 = As.reverse ++ .ref b :: rest) (hW : (rest.map fun v => v.category).sum ≤ 8) (hdg : decode cc pc = .ok (.invokevirtual index, 3)) (hf : cells + 0 ≤ R.cells ∧ slots + 0 ≤ R.slots)
    (kk : W p l e R s m args below meth c H locs cells slots Q (F0 m (pc + 3) ls (.int r :: rest))) : W p l e R s m args below meth c H locs cells slots Q (F0 m pc ls st0) :=
  W.callR (W.runV (As := As) (rest := rest) F hM cw ⟨gp_b0, va_recv hK hP hc he, gp_s0 hK hP⟩ rfl hn hsize hstack (lv_room hW) hdg hf) kk
/-- a static call of a method that reads -/
theorem gp_cS (F : CallFix p m c cc nL s args gw own) (hM : gp_CR l y bytes maxL ret k E w As r)
    (cw : CallB R s args own index y bytes maxL ret (.code y bytes maxL ret :: gw) (gp_rm k 0 0) 0 0 n ∧ (Cond.static y).before args s = true) (hK : va_K E.1 gp_cl (gp_ty E) s) (hP : va_P E.1 gp_cl w H)
    (hn : As.length = n) (hsize : ls.size = nL) (hstack : st0 = As.reverse ++ rest) (hW : (rest.map fun v => v.category).sum ≤ 8) (hdg : decode cc pc = .ok (.invokestatic index, 3)) (hf : cells + 0 ≤ R.cells ∧ slots + 0 ≤ R.slots)
    (kk : W p l e R s m args below meth c H locs cells slots Q (F0 m (pc + 3) ls (.int r :: rest))) : W p l e R s m args below meth c H locs cells slots Q (F0 m pc ls st0) :=
  W.callR (W.runS (As := As) (rest := rest) F hM cw ⟨gp_b0, gp_s0 hK hP⟩ rfl hn hsize hstack (lv_room hW) hdg hf) kk
/-- a virtual call of a method that writes -/
theorem gp_cW {q0 ci : Nat} {r0 : vw_C} {fs : List Value} (F : CallFix p m c cc nL s args gw own) (hM : gp_CW l y bytes maxL ret k E w w' (.ref b :: As) v)
    (cw : CallW R s args own r0.1 index y bytes maxL ret (.code y bytes maxL ret :: gw) (gp_rm k 0 0) 0 0 n) (hK : va_K E.1 gp_cl (gp_ty E) s) (hP : va_P E.1 gp_cl w H) (hD : va_D A0 w) (hS : va_S A0 s.heap H locs) (hA : ∀ q, s.heap.size ≤ q → A0 q) (hdd : w.map (fun q => q.1) = w'.map (fun q => q.1))
    (hc : gp_cl[ci]? = some r0) (he : w[q0]? = some (b, .inr (ci, fs))) (hn : As.length = n) (hsize : ls.size = nL) (hstack : st0 = As.reverse ++ .ref b :: rest) (hW : (rest.map fun v => v.category).sum ≤ 8) (hdg : decode cc pc = .ok (.invokevirtual index, 3)) (hf : cells + 0 ≤ R.cells ∧ slots + 0 ≤ R.slots)
    (kk : ∀ (H1 : Heap) (locs1 : List Loc), va_P E.1 gp_cl w' H1 → va_D A0 w' → va_S A0 s.heap H1 locs1 → W p l e R s m args below meth c H1 locs1 cells slots Q (F0 m (pc + 3) ls (v.toList ++ rest))) : W p l e R s m args below meth c H locs cells slots Q (F0 m pc ls st0) := by
  have hF := gp_free hD hS hA
  intro T hT X
  obtain ⟨v1, st₀, t, T', L, h0, X', hL, e1, e2, ⟨hv, hP1, hz, hk⟩, st⟩ := va_runV (As := As) (rest := rest) F (hM H.size) cw ⟨gp_b1, va_recv hK hP hc he, gp_s1 hK hP hD⟩ rfl hn hsize hstack (lv_room hW) hdg hf T hT X
  obtain rfl : v1 = v := by cases hv; rfl
  rw [h0] at hz hk
  obtain ⟨t2, a1, b1⟩ := kk T'.heap (locs ++ L) (by rw [e1]; exact hP1) (gp_dd hD hdd)
    ⟨Nat.le_trans hS.1 (by rw [e1]; exact hz), fun q h1 h2 => by rw [e1, hk q (Nat.lt_of_lt_of_le h1 hS.1) (fun z => h2 (hF q z))]; exact hS.2.1 q h1 h2, fun q hq => by
      rcases List.mem_append.mp hq with h | h
      · exact hS.2.2 q h
      · exact hF _ (hL q h)⟩ T' rfl X'
  exact ⟨t2, st t2 a1, b1⟩
/-- ends -/
theorem gp_ri (hx : p.tables.exec = Jvm.exec) (hb : c.code = cc) (hr : meth.sig.returnType = some .int) (hlocks : meth.locks = false) {x : Int32} (h : x = r) (hdg : decode cc pc = .ok (.ireturn, 1)) : W p l e R s m args below meth c s.heap [] 0 0 (MQ below (QcRead r) args s 0 0 (fun _ => False)) (F0 m pc ls [.int x]) :=
  W.iret hx hb hr (fun t ht _ => ⟨by rw [h], ht⟩) (fun _ h => nomatch h) hdg hlocks
theorem gp_rz (hx : p.tables.exec = Jvm.exec) (hb : c.code = cc) (hr : meth.sig.returnType = some .boolean) (hlocks : meth.locks = false) {x : Int32} (hn : narrow .boolean (.int x) = .int x) (h : x = r) (hdg : decode cc pc = .ok (.ireturn, 1)) : W p l e R s m args below meth c s.heap [] 0 0 (MQ below (QcRead r) args s 0 0 (fun _ => False)) (F0 m pc ls [.int x]) :=
  W.zret hx hb hr hn (fun t ht _ => ⟨by rw [h], ht⟩) (fun _ h => nomatch h) hdg hlocks
theorem gp_wi (hx : p.tables.exec = Jvm.exec) (hb : c.code = cc) (hr : meth.sig.returnType = some .int) (hlocks : meth.locks = false) (hAe : va_A w s.heap.size = A0) {x : Int32} (h : v = some (.int x)) (hP : va_P E.1 gp_cl w' H) (hS : va_S A0 s.heap H locs) (hdg : decode cc pc = .ok (.ireturn, 1)) : W p l e R s m args below meth c H locs 0 0 (MQ below (gp_QW E v w w' s.heap.size) args s 0 0 A0) (F0 m pc ls [.int x]) :=
  W.iret hx hb hr (fun t ht _ => ⟨by rw [h], by rw [ht]; exact hP, by rw [hAe]; exact hS.F ht⟩) hS.2.2 hdg hlocks
theorem gp_wz (hx : p.tables.exec = Jvm.exec) (hb : c.code = cc) (hr : meth.sig.returnType = some .boolean) (hlocks : meth.locks = false) (hAe : va_A w s.heap.size = A0) {x : Int32} (hn : narrow .boolean (.int x) = .int x) (h : v = some (.int x)) (hP : va_P E.1 gp_cl w' H) (hS : va_S A0 s.heap H locs) (hdg : decode cc pc = .ok (.ireturn, 1)) : W p l e R s m args below meth c H locs 0 0 (MQ below (gp_QW E v w w' s.heap.size) args s 0 0 A0) (F0 m pc ls [.int x]) :=
  W.zret hx hb hr hn (fun t ht _ => ⟨by rw [h], by rw [ht]; exact hP, by rw [hAe]; exact hS.F ht⟩) hS.2.2 hdg hlocks
theorem gp_wv (hx : p.tables.exec = Jvm.exec) (hb : c.code = cc) (hr : meth.sig.returnType = none) (hlocks : meth.locks = false) (hAe : va_A w s.heap.size = A0) (h : v = none) (hP : va_P E.1 gp_cl w' H) (hS : va_S A0 s.heap H locs) (hdg : decode cc pc = .ok (.return_, 1)) : W p l e R s m args below meth c H locs 0 0 (MQ below (gp_QW E v w w' s.heap.size) args s 0 0 A0) (F0 m pc ls []) :=
  W.vret hx hb hr (fun t ht _ => ⟨by rw [h], by rw [ht]; exact hP, by rw [hAe]; exact hS.F ht⟩) hS.2.2 hdg hlocks
end GpC
end
section
def gp_uF (F : Nat → Nat → Int32) (a : Nat) (g : Nat → Int32) : Nat → Nat → Int32 := fun j => if j = a then g else F j
def gp_wG (E : gp_E) (I : Nat → Int32) (F : Nat → Nat → Int32) : va_W := [(E.2.2.2 0, .inr (0, [.ref (E.2.2.2 1), .ref (E.2.2.2 2), .ref (E.2.2.2 17), .ref (E.2.2.2 18), .int (I 0), .int (I 1), .int (I 2), .int (I 3)])), (E.2.2.2 1, .inr (1, [.ref (E.2.2.2 3), .ref (E.2.2.2 4), .ref (E.2.2.2 5), .ref (E.2.2.2 6), .ref (E.2.2.2 7), .ref (E.2.2.2 8), .ref (E.2.2.2 9), .ref (E.2.2.2 10), .int (I 4), .int (I 5), .int (I 6), .int (I 7), .int (I 8)])), (E.2.2.2 2, .inr (2, [.ref (E.2.2.2 11), .ref (E.2.2.2 12), .ref (E.2.2.2 13), .ref (E.2.2.2 14), .ref (E.2.2.2 15), .ref (E.2.2.2 16), .int (I 9), .int (I 10), .int (I 11)])), (E.2.2.2 3, .inl (E.2.1, 4, .inl (F 0))), (E.2.2.2 4, .inl (E.2.1, 20, .inl (F 1))), (E.2.2.2 5, .inl (E.2.1, 20, .inl (F 2))), (E.2.2.2 6, .inl (E.2.1, 20, .inl (F 3))), (E.2.2.2 7, .inl (E.2.1, 6, .inl (F 4))), (E.2.2.2 8, .inl (E.2.1, 6, .inl (F 5))), (E.2.2.2 9, .inl (E.2.1, 6, .inl (F 6))), (E.2.2.2 10, .inl (E.2.2.1, 6, .inl (F 7))), (E.2.2.2 11, .inl (E.2.1, 6, .inl (F 8))), (E.2.2.2 12, .inl (E.2.1, 6, .inl (F 9))), (E.2.2.2 13, .inl (E.2.1, 6, .inl (F 10))), (E.2.2.2 14, .inl (E.2.1, 6, .inl (F 11))), (E.2.2.2 15, .inl (E.2.1, 4, .inl (F 12))), (E.2.2.2 16, .inl (E.2.1, 4, .inl (F 13))), (E.2.2.2 17, .inl (E.2.1, 6, .inl (F 14))), (E.2.2.2 18, .inl (E.2.1, 6, .inl (F 15)))]
def gp_wM (E : gp_E) (I : Nat → Int32) (F : Nat → Nat → Int32) : va_W := [(E.2.2.2 0, .inr (3, [.int (I 0), .int (I 1), .ref (E.2.2.2 1), .int (I 2), .ref (E.2.2.2 2), .ref (E.2.2.2 3), .ref (E.2.2.2 4), .int (I 3), .ref (E.2.2.2 5), .ref (E.2.2.2 6), .ref (E.2.2.2 7), .ref (E.2.2.2 8), .ref (E.2.2.2 9), .ref (E.2.2.2 10), .ref (E.2.2.2 11), .ref (E.2.2.2 12), .int (I 4), .int (I 5), .int (I 6), .int (I 7), .int (I 8), .int (I 9), .ref (E.2.2.2 13), .int (I 10), .int (I 11), .int (I 12), .int (I 13)])), (E.2.2.2 1, .inl (E.2.1, 4, .inl (F 0))), (E.2.2.2 2, .inl (E.2.1, 20, .inl (F 1))), (E.2.2.2 3, .inl (E.2.1, 20, .inl (F 2))), (E.2.2.2 4, .inl (E.2.1, 20, .inl (F 3))), (E.2.2.2 5, .inl (E.2.1, 6, .inl (F 4))), (E.2.2.2 6, .inl (E.2.1, 6, .inl (F 5))), (E.2.2.2 7, .inl (E.2.1, 6, .inl (F 6))), (E.2.2.2 8, .inl (E.2.2.1, 6, .inl (F 7))), (E.2.2.2 9, .inl (E.2.1, 6, .inl (F 8))), (E.2.2.2 10, .inl (E.2.1, 6, .inl (F 9))), (E.2.2.2 11, .inl (E.2.1, 6, .inl (F 10))), (E.2.2.2 12, .inl (E.2.2.1, 6, .inl (F 11))), (E.2.2.2 13, .inl (E.2.1, 6, .inl (F 12)))]
section GpA
variable {p : Program} {l : Launch} {e : Env} {R : Room} {s : State} {m : MethodId} {args : Array Value} {below : List Frame} {meth : Method} {c : Code} {H H0 : Heap} {locs : List Loc} {cells slots : Nat} {Q : State → Prop}
variable {cc : ByteArray} {pc : Nat} {ls : Array Slot} {rest : List Value} {E : gp_E} {A : Nat → Prop} {a : Nat} {ws : va_W}
theorem gp_ald (hx : p.tables.exec = Jvm.exec) (hb : c.code = cc) (hK : va_K E.1 gp_cl (gp_ty E) s) (hP : va_P E.1 gp_cl ws H) (q0 : Nat) {n : Nat} {f : Nat → Int32} (ha : ws[q0]? = some (a, .inl (E.2.1, n, .inl f))) {i : Int32} (t : Nat) (hi : i = nI t) (hlt : t < n) (hn : n < 2 ^ 31) (hdg : decode cc pc = .ok (.iaload, 1))
    (kk : W p l e R s m args below meth c H locs cells slots Q (F0 m (pc + 1) ls (.int (f t) :: rest))) : W p l e R s m args below meth c H locs cells slots Q (F0 m pc ls (.int i :: .ref a :: rest)) := by
  subst hi
  refine va_iald hx hb hK hP q0 0 ha rfl (vp_in_nI hlt hn) hdg ?_
  rw [nI_clamp (Nat.lt_trans hlt hn)]
  exact kk
theorem gp_zld (hx : p.tables.exec = Jvm.exec) (hb : c.code = cc) (hK : va_K E.1 gp_cl (gp_ty E) s) (hP : va_P E.1 gp_cl ws H) (q0 : Nat) {n : Nat} {f : Nat → Int32} (ha : ws[q0]? = some (a, .inl (E.2.2.1, n, .inl f))) {i : Int32} (t : Nat) (hi : i = nI t) (hlt : t < n) (hn : n < 2 ^ 31) (hdg : decode cc pc = .ok (.baload, 1))
    (kk : W p l e R s m args below meth c H locs cells slots Q (F0 m (pc + 1) ls (.int (f t) :: rest))) : W p l e R s m args below meth c H locs cells slots Q (F0 m pc ls (.int i :: .ref a :: rest)) := by
  subst hi
  refine va_zald hx hb hK hP q0 1 ha rfl (vp_in_nI hlt hn) hdg ?_
  rw [nI_clamp (Nat.lt_trans hlt hn)]
  exact kk
theorem gp_ast (hx : p.tables.exec = Jvm.exec) (hb : c.code = cc) (hK : va_K E.1 gp_cl (gp_ty E) s) (hP : va_P E.1 gp_cl ws H) (hD : va_D A ws) (hS : va_S A H0 H locs) (q0 : Nat) {n : Nat} {f : Nat → Int32} (ha : ws[q0]? = some (a, .inl (E.2.1, n, .inl f))) {i x : Int32} (t : Nat) (hi : i = nI t) (hlt : t < n) (hn : n < 2 ^ 31) (hdg : decode cc pc = .ok (.iastore, 1))
    (kk : ∀ (H1 : Heap) (locs1 : List Loc), va_P E.1 gp_cl (ws.set q0 (a, .inl (E.2.1, n, .inl (upd f t x)))) H1 → va_D A (ws.set q0 (a, .inl (E.2.1, n, .inl (upd f t x)))) → va_S A H0 H1 locs1 → W p l e R s m args below meth c H1 locs1 cells slots Q (F0 m (pc + 1) ls rest)) : W p l e R s m args below meth c H locs cells slots Q (F0 m pc ls (.int x :: .int i :: .ref a :: rest)) := by
  subst hi
  refine va_iast hx hb hK hP hD hS q0 0 ha rfl (vp_in_nI hlt hn) hdg ?_
  rw [nI_clamp (Nat.lt_trans hlt hn)]
  exact kk
theorem gp_zst (hx : p.tables.exec = Jvm.exec) (hb : c.code = cc) (hK : va_K E.1 gp_cl (gp_ty E) s) (hP : va_P E.1 gp_cl ws H) (hD : va_D A ws) (hS : va_S A H0 H locs) (q0 : Nat) {n : Nat} {f : Nat → Int32} (ha : ws[q0]? = some (a, .inl (E.2.2.1, n, .inl f))) {i x : Int32} (t : Nat) (hi : i = nI t) (hlt : t < n) (hn : n < 2 ^ 31) (hx1 : vp_nar .boolean x = x) (hdg : decode cc pc = .ok (.bastore, 1))
    (kk : ∀ (H1 : Heap) (locs1 : List Loc), va_P E.1 gp_cl (ws.set q0 (a, .inl (E.2.2.1, n, .inl (upd f t x)))) H1 → va_D A (ws.set q0 (a, .inl (E.2.2.1, n, .inl (upd f t x)))) → va_S A H0 H1 locs1 → W p l e R s m args below meth c H1 locs1 cells slots Q (F0 m (pc + 1) ls rest)) : W p l e R s m args below meth c H locs cells slots Q (F0 m pc ls (.int x :: .int i :: .ref a :: rest)) := by
  subst hi
  refine va_zast hx hb hK hP hD hS q0 1 ha rfl (vp_in_nI hlt hn) hdg ?_
  rw [nI_clamp (Nat.lt_trans hlt hn), hx1]
  exact kk
end GpA
end
section
theorem k_G_9 {R : Room} {s : State} {args : Array Value} {rm : Room} {mc ms : Nat} (hts : ∀ w ∈ gw, w.before args s = true) (hR : rm.frames + 1 ≤ R.frames ∧ 8 + (1 + 11) + rm.locals ≤ R.locals) (hrc : rm.cells = mc) (hrs : rm.slots = ms) : CallB R s args "GuidePlans" 9 y_D_init b_D_init 1 none (.code y_D_init b_D_init 1 none :: gw) rm mc ms 0 ∧ y_D_init.name = "<init>" ∧ (Cond.instanceMethod y_D_init).before args s = true := ⟨callB_of 0 hts (gw_c w1_25) rfl hrc hrs (hts _ w1_2) (hts _ w1_23) (by decide +kernel) hR, rfl, hts _ w1_24⟩
theorem k_G_18 {R : Room} {s : State} {args : Array Value} {rm : Room} {mc ms : Nat} (hts : ∀ w ∈ gw, w.before args s = true) (hR : rm.frames + 1 ≤ R.frames ∧ 8 + (1 + 11) + rm.locals ≤ R.locals) (hrc : rm.cells = mc) (hrs : rm.slots = ms) : CallB R s args "GuidePlans" 18 y_S_init b_S_init 1 none (.code y_S_init b_S_init 1 none :: gw) rm mc ms 0 ∧ y_S_init.name = "<init>" ∧ (Cond.instanceMethod y_S_init).before args s = true := ⟨callB_of 0 hts (gw_c w1_85) rfl hrc hrs (hts _ w1_3) (hts _ w1_83) (by decide +kernel) hR, rfl, hts _ w1_84⟩
theorem k_G_59 {R : Room} {s : State} {args : Array Value} {rm : Room} {mc ms : Nat} (hts : ∀ w ∈ gw, w.before args s = true) (hR : rm.frames + 1 ≤ R.frames ∧ 8 + (2 + 11) + rm.locals ≤ R.locals) (hrc : rm.cells = mc) (hrs : rm.slots = ms) : CallW R s args "GuidePlans" "GuidePlans$Day" 59 y_D_addPerson b_D_addPerson 2 (some .int) (.code y_D_addPerson b_D_addPerson 2 (some .int) :: gw) rm mc ms 1 := cwV 1 hts (gw_V w2_99 w2_100 w2_101 w1_2 w2_102) rfl hrc hrs (by decide +kernel) hR
theorem k_G_63 {R : Room} {s : State} {args : Array Value} {rm : Room} {mc ms : Nat} (hts : ∀ w ∈ gw, w.before args s = true) (hR : rm.frames + 1 ≤ R.frames ∧ 8 + (2 + 11) + rm.locals ≤ R.locals) (hrc : rm.cells = mc) (hrs : rm.slots = ms) : CallW R s args "GuidePlans" "GuidePlans" 63 y_G_requirePerson b_G_requirePerson 2 none (.code y_G_requirePerson b_G_requirePerson 2 none :: gw) rm mc ms 1 := cwV 1 hts (gw_V w2_111 w2_113 w0_14 w1_1 w2_114) rfl hrc hrs (by decide +kernel) hR
theorem k_G_67 {R : Room} {s : State} {args : Array Value} {rm : Room} {mc ms : Nat} (hts : ∀ w ∈ gw, w.before args s = true) (hR : rm.frames + 1 ≤ R.frames ∧ 8 + (3 + 11) + rm.locals ≤ R.locals) (hrc : rm.cells = mc) (hrs : rm.slots = ms) : CallW R s args "GuidePlans" "GuidePlans" 67 y_G_requireSpan b_G_requireSpan 3 none (.code y_G_requireSpan b_G_requireSpan 3 none :: gw) rm mc ms 2 := cwV 2 hts (gw_V w2_132 w2_134 w0_15 w1_1 w2_135) rfl hrc hrs (by decide +kernel) hR
theorem k_G_71 {R : Room} {s : State} {args : Array Value} {rm : Room} {mc ms : Nat} (hts : ∀ w ∈ gw, w.before args s = true) (hR : rm.frames + 1 ≤ R.frames ∧ 8 + (1 + 11) + rm.locals ≤ R.locals) (hrc : rm.cells = mc) (hrs : rm.slots = ms) : CallW R s args "GuidePlans" "GuidePlans" 71 y_G_requireRoomForSpan b_G_requireRoomForSpan 1 none (.code y_G_requireRoomForSpan b_G_requireRoomForSpan 1 none :: gw) rm mc ms 0 := cwV 0 hts (gw_V w2_137 w2_139 w0_16 w1_1 w2_140) rfl hrc hrs (by decide +kernel) hR
theorem k_G_74 {R : Room} {s : State} {args : Array Value} {rm : Room} {mc ms : Nat} (hts : ∀ w ∈ gw, w.before args s = true) (hR : rm.frames + 1 ≤ R.frames ∧ 8 + (4 + 11) + rm.locals ≤ R.locals) (hrc : rm.cells = mc) (hrs : rm.slots = ms) : CallW R s args "GuidePlans" "GuidePlans$Day" 74 y_D_addSpan b_D_addSpan 4 none (.code y_D_addSpan b_D_addSpan 4 none :: gw) rm mc ms 3 := cwV 3 hts (gw_V w2_142 w2_143 w2_144 w1_2 w2_145) rfl hrc hrs (by decide +kernel) hR
theorem k_G_91 {R : Room} {s : State} {args : Array Value} {rm : Room} {mc ms : Nat} (hts : ∀ w ∈ gw, w.before args s = true) (hR : rm.frames + 1 ≤ R.frames ∧ 8 + (5 + 11) + rm.locals ≤ R.locals) (hrc : rm.cells = mc) (hrs : rm.slots = ms) : CallW R s args "GuidePlans" "GuidePlans$Day" 91 y_D_addTask b_D_addTask 5 (some .int) (.code y_D_addTask b_D_addTask 5 (some .int) :: gw) rm mc ms 4 := cwV 4 hts (gw_V w2_155 w2_156 w2_157 w1_2 w2_158) rfl hrc hrs (by decide +kernel) hR
theorem k_G_95 {R : Room} {s : State} {args : Array Value} {rm : Room} {mc ms : Nat} (hts : ∀ w ∈ gw, w.before args s = true) (hR : rm.frames + 1 ≤ R.frames ∧ 8 + (2 + 11) + rm.locals ≤ R.locals) (hrc : rm.cells = mc) (hrs : rm.slots = ms) : CallW R s args "GuidePlans" "GuidePlans" 95 y_G_requireQuarters b_G_requireQuarters 2 none (.code y_G_requireQuarters b_G_requireQuarters 2 none :: gw) rm mc ms 1 := cwV 1 hts (gw_V w2_166 w2_168 w0_17 w1_1 w2_169) rfl hrc hrs (by decide +kernel) hR
theorem k_G_104 {R : Room} {s : State} {args : Array Value} {rm : Room} {mc ms : Nat} (hts : ∀ w ∈ gw, w.before args s = true) (hR : rm.frames + 1 ≤ R.frames ∧ 8 + (3 + 11) + rm.locals ≤ R.locals) (hrc : rm.cells = mc) (hrs : rm.slots = ms) : CallW R s args "GuidePlans" "GuidePlans$Search" 104 y_S_findAnew b_S_findAnew 3 (some .boolean) (.code y_S_findAnew b_S_findAnew 3 (some .boolean) :: gw) rm mc ms 2 := cwV 2 hts (gw_V w1_146 w1_147 w1_148 w1_3 w1_149) rfl hrc hrs (by decide +kernel) hR
theorem k_G_108 {R : Room} {s : State} {args : Array Value} {rm : Room} {mc ms : Nat} (hts : ∀ w ∈ gw, w.before args s = true) (hR : rm.frames + 1 ≤ R.frames ∧ 8 + (5 + 11) + rm.locals ≤ R.locals) (hrc : rm.cells = mc) (hrs : rm.slots = ms) : CallW R s args "GuidePlans" "GuidePlans$Search" 108 y_S_firstLacking b_S_firstLacking 5 (some .int) (.code y_S_firstLacking b_S_firstLacking 5 (some .int) :: gw) rm mc ms 3 := cwV 3 hts (gw_V w1_216 w1_217 w1_218 w1_3 w1_219) rfl hrc hrs (by decide +kernel) hR
theorem k_G_112 {R : Room} {s : State} {args : Array Value} {rm : Room} {mc ms : Nat} (hts : ∀ w ∈ gw, w.before args s = true) (hR : rm.frames + 1 ≤ R.frames ∧ 8 + (2 + 11) + rm.locals ≤ R.locals) (hrc : rm.cells = mc) (hrs : rm.slots = ms) : CallW R s args "GuidePlans" "GuidePlans" 112 y_G_adoptFoundPlan b_G_adoptFoundPlan 2 none (.code y_G_adoptFoundPlan b_G_adoptFoundPlan 2 none :: gw) rm mc ms 0 := cwV 0 hts (gw_V w1_220 w1_222 w0_10 w1_1 w1_223) rfl hrc hrs (by decide +kernel) hR
theorem k_G_115 {R : Room} {s : State} {args : Array Value} {rm : Room} {mc ms : Nat} (hts : ∀ w ∈ gw, w.before args s = true) (hR : rm.frames + 1 ≤ R.frames ∧ 8 + (4 + 11) + rm.locals ≤ R.locals) (hrc : rm.cells = mc) (hrs : rm.slots = ms) : CallW R s args "GuidePlans" "GuidePlans" 115 y_G_planCost b_G_planCost 4 (some .int) (.code y_G_planCost b_G_planCost 4 (some .int) :: gw) rm mc ms 0 := cwV 0 hts (gw_V w1_224 w1_226 w0_11 w1_1 w1_227) rfl hrc hrs (by decide +kernel) hR
theorem k_G_119 {R : Room} {s : State} {args : Array Value} {rm : Room} {mc ms : Nat} (hts : ∀ w ∈ gw, w.before args s = true) (hR : rm.frames + 1 ≤ R.frames ∧ 8 + (2 + 11) + rm.locals ≤ R.locals) (hrc : rm.cells = mc) (hrs : rm.slots = ms) : CallW R s args "GuidePlans" "GuidePlans" 119 y_G_requireTask b_G_requireTask 2 none (.code y_G_requireTask b_G_requireTask 2 none :: gw) rm mc ms 1 := cwV 1 hts (gw_V w2_192 w2_194 w0_18 w1_1 w2_195) rfl hrc hrs (by decide +kernel) hR
theorem k_G_122 {R : Room} {s : State} {args : Array Value} {rm : Room} {mc ms : Nat} (hts : ∀ w ∈ gw, w.before args s = true) (hR : rm.frames + 1 ≤ R.frames ∧ 8 + (1 + 11) + rm.locals ≤ R.locals) (hrc : rm.cells = mc) (hrs : rm.slots = ms) : CallW R s args "GuidePlans" "GuidePlans" 122 y_G_requirePlan b_G_requirePlan 1 none (.code y_G_requirePlan b_G_requirePlan 1 none :: gw) rm mc ms 0 := cwV 0 hts (gw_V w2_205 w2_207 w0_19 w1_1 w2_208) rfl hrc hrs (by decide +kernel) hR
theorem k_G_125 {R : Room} {s : State} {args : Array Value} {rm : Room} {mc ms : Nat} (hts : ∀ w ∈ gw, w.before args s = true) (hR : rm.frames + 1 ≤ R.frames ∧ 8 + (4 + 11) + rm.locals ≤ R.locals) (hrc : rm.cells = mc) (hrs : rm.slots = ms) : CallW R s args "GuidePlans" "GuidePlans$Search" 125 y_S_findNearest b_S_findNearest 4 (some .boolean) (.code y_S_findNearest b_S_findNearest 4 (some .boolean) :: gw) rm mc ms 3 := cwV 3 hts (gw_V w2_217 w2_218 w2_219 w1_3 w2_220) rfl hrc hrs (by decide +kernel) hR
theorem k_G_129 {R : Room} {s : State} {args : Array Value} {rm : Room} {mc ms : Nat} (hts : ∀ w ∈ gw, w.before args s = true) (hR : rm.frames + 1 ≤ R.frames ∧ 8 + (1 + 11) + rm.locals ≤ R.locals) (hrc : rm.cells = mc) (hrs : rm.slots = ms) : CallW R s args "GuidePlans" "GuidePlans$Day" 129 y_D_dropLatestSpan b_D_dropLatestSpan 1 none (.code y_D_dropLatestSpan b_D_dropLatestSpan 1 none :: gw) rm mc ms 0 := cwV 0 hts (gw_V w2_221 w2_222 w2_223 w1_2 w2_224) rfl hrc hrs (by decide +kernel) hR
theorem k_G_132 {R : Room} {s : State} {args : Array Value} {rm : Room} {mc ms : Nat} (hts : ∀ w ∈ gw, w.before args s = true) (hR : rm.frames + 1 ≤ R.frames ∧ 8 + (2 + 11) + rm.locals ≤ R.locals) (hrc : rm.cells = mc) (hrs : rm.slots = ms) : CallW R s args "GuidePlans" "GuidePlans" 132 y_G_noteChanges b_G_noteChanges 2 none (.code y_G_noteChanges b_G_noteChanges 2 none :: gw) rm mc ms 0 := cwV 0 hts (gw_V w2_225 w2_227 w0_20 w1_1 w2_228) rfl hrc hrs (by decide +kernel) hR
theorem k_G_140 {R : Room} {s : State} {args : Array Value} {rm : Room} {mc ms : Nat} (hts : ∀ w ∈ gw, w.before args s = true) (hR : rm.frames + 1 ≤ R.frames ∧ 8 + (3 + 11) + rm.locals ≤ R.locals) (hrc : rm.cells = mc) (hrs : rm.slots = ms) : CallW R s args "GuidePlans" "GuidePlans" 140 y_G_empties b_G_empties 3 (some .boolean) (.code y_G_empties b_G_empties 3 (some .boolean) :: gw) rm mc ms 2 := cwV 2 hts (gw_V w3_4 w3_6 w0_21 w1_1 w3_7) rfl hrc hrs (by decide +kernel) hR
theorem k_G_144 {R : Room} {s : State} {args : Array Value} {rm : Room} {mc ms : Nat} (hts : ∀ w ∈ gw, w.before args s = true) (hR : rm.frames + 1 ≤ R.frames ∧ 8 + (3 + 11) + rm.locals ≤ R.locals) (hrc : rm.cells = mc) (hrs : rm.slots = ms) : CallW R s args "GuidePlans" "GuidePlans" 144 y_G_isUnsuited b_G_isUnsuited 3 (some .boolean) (.code y_G_isUnsuited b_G_isUnsuited 3 (some .boolean) :: gw) rm mc ms 2 := cwV 2 hts (gw_V w3_8 w3_10 w0_22 w1_1 w3_11) rfl hrc hrs (by decide +kernel) hR
theorem k_G_147 {R : Room} {s : State} {args : Array Value} {rm : Room} {mc ms : Nat} (hts : ∀ w ∈ gw, w.before args s = true) (hR : rm.frames + 1 ≤ R.frames ∧ 8 + (3 + 11) + rm.locals ≤ R.locals) (hrc : rm.cells = mc) (hrs : rm.slots = ms) : CallW R s args "GuidePlans" "GuidePlans" 147 y_G_faultOfSets b_G_faultOfSets 3 (some .int) (.code y_G_faultOfSets b_G_faultOfSets 3 (some .int) :: gw) rm mc ms 2 := cwV 2 hts (gw_V w3_13 w3_15 w0_23 w1_1 w3_16) rfl hrc hrs (by decide +kernel) hR
theorem k_G_151 {R : Room} {s : State} {args : Array Value} {rm : Room} {mc ms : Nat} (hts : ∀ w ∈ gw, w.before args s = true) (hR : rm.frames + 1 ≤ R.frames ∧ 8 + (4 + 11) + rm.locals ≤ R.locals) (hrc : rm.cells = mc) (hrs : rm.slots = ms) : CallW R s args "GuidePlans" "GuidePlans" 151 y_G_quartersOf b_G_quartersOf 4 (some .int) (.code y_G_quartersOf b_G_quartersOf 4 (some .int) :: gw) rm mc ms 1 := cwV 1 hts (gw_V w3_26 w3_28 w0_26 w1_1 w3_29) rfl hrc hrs (by decide +kernel) hR
theorem k_G_154 {R : Room} {s : State} {args : Array Value} {rm : Room} {mc ms : Nat} (hts : ∀ w ∈ gw, w.before args s = true) (hR : rm.frames + 1 ≤ R.frames ∧ 8 + (4 + 11) + rm.locals ≤ R.locals) (hrc : rm.cells = mc) (hrs : rm.slots = ms) : CallW R s args "GuidePlans" "GuidePlans" 154 y_G_numberOfTasks b_G_numberOfTasks 4 (some .int) (.code y_G_numberOfTasks b_G_numberOfTasks 4 (some .int) :: gw) rm mc ms 1 := cwV 1 hts (gw_V w1_228 w1_230 w0_12 w1_1 w1_231) rfl hrc hrs (by decide +kernel) hR
theorem k_G_157 {R : Room} {s : State} {args : Array Value} {rm : Room} {mc ms : Nat} (hts : ∀ w ∈ gw, w.before args s = true) (hR : rm.frames + 1 ≤ R.frames ∧ 8 + (2 + 11) + rm.locals ≤ R.locals) (hrc : rm.cells = mc) (hrs : rm.slots = ms) : CallB R s args "GuidePlans" 157 y_K_max b_K_max 2 (some .int) (.code y_K_max b_K_max 2 (some .int) :: gw) rm mc ms 2 ∧ (Cond.static y_K_max).before args s = true := ⟨callB_of 2 hts (gw_c w2_2) rfl hrc hrs (hts _ w1_12) (hts _ w2_0) (by decide +kernel) hR, hts _ w2_1⟩
theorem k_G_162 {R : Room} {s : State} {args : Array Value} {rm : Room} {mc ms : Nat} (hts : ∀ w ∈ gw, w.before args s = true) (hR : rm.frames + 1 ≤ R.frames ∧ 8 + (2 + 11) + rm.locals ≤ R.locals) (hrc : rm.cells = mc) (hrs : rm.slots = ms) : CallB R s args "GuidePlans" 162 y_K_min b_K_min 2 (some .int) (.code y_K_min b_K_min 2 (some .int) :: gw) rm mc ms 2 ∧ (Cond.static y_K_min).before args s = true := ⟨callB_of 2 hts (gw_c w2_5) rfl hrc hrs (hts _ w1_12) (hts _ w2_3) (by decide +kernel) hR, hts _ w2_4⟩
theorem k_G_167 {R : Room} {s : State} {args : Array Value} {rm : Room} {mc ms : Nat} (hts : ∀ w ∈ gw, w.before args s = true) (hR : rm.frames + 1 ≤ R.frames ∧ 8 + (2 + 11) + rm.locals ≤ R.locals) (hrc : rm.cells = mc) (hrs : rm.slots = ms) : CallW R s args "GuidePlans" "GuidePlans$Day" 167 y_D_hasPerson b_D_hasPerson 2 (some .boolean) (.code y_D_hasPerson b_D_hasPerson 2 (some .boolean) :: gw) rm mc ms 1 := cwV 1 hts (gw_V w2_115 w1_167 w1_168 w1_2 w1_169) rfl hrc hrs (by decide +kernel) hR
theorem k_G_173 {R : Room} {s : State} {args : Array Value} {rm : Room} {mc ms : Nat} (hts : ∀ w ∈ gw, w.before args s = true) (hR : rm.frames + 1 ≤ R.frames ∧ 8 + (2 + 11) + rm.locals ≤ R.locals) (hrc : rm.cells = mc) (hrs : rm.slots = ms) : CallW R s args "GuidePlans" "GuidePlans$Day" 173 y_D_hasTask b_D_hasTask 2 (some .boolean) (.code y_D_hasTask b_D_hasTask 2 (some .boolean) :: gw) rm mc ms 1 := cwV 1 hts (gw_V w2_196 w1_171 w1_172 w1_2 w1_173) rfl hrc hrs (by decide +kernel) hR
theorem k_G_189 {R : Room} {s : State} {args : Array Value} {rm : Room} {mc ms : Nat} (hts : ∀ w ∈ gw, w.before args s = true) (hR : rm.frames + 1 ≤ R.frames ∧ 8 + (2 + 11) + rm.locals ≤ R.locals) (hrc : rm.cells = mc) (hrs : rm.slots = ms) : CallW R s args "GuidePlans" "GuidePlans$Day" 189 y_D_lengthOf b_D_lengthOf 2 (some .int) (.code y_D_lengthOf b_D_lengthOf 2 (some .int) :: gw) rm mc ms 1 := cwV 1 hts (gw_V w3_30 w1_199 w1_200 w1_2 w1_201) rfl hrc hrs (by decide +kernel) hR
theorem k_G_196 {R : Room} {s : State} {args : Array Value} {rm : Room} {mc ms : Nat} (hts : ∀ w ∈ gw, w.before args s = true) (hR : rm.frames + 1 ≤ R.frames ∧ 8 + (3 + 11) + rm.locals ≤ R.locals) (hrc : rm.cells = mc) (hrs : rm.slots = ms) : CallW R s args "GuidePlans" "GuidePlans$Day" 196 y_D_suits b_D_suits 3 (some .boolean) (.code y_D_suits b_D_suits 3 (some .boolean) :: gw) rm mc ms 2 := cwV 2 hts (gw_V w3_12 w1_163 w1_164 w1_2 w1_165) rfl hrc hrs (by decide +kernel) hR
theorem k_G_199 {R : Room} {s : State} {args : Array Value} {rm : Room} {mc ms : Nat} (hts : ∀ w ∈ gw, w.before args s = true) (hR : rm.frames + 1 ≤ R.frames ∧ 8 + (4 + 11) + rm.locals ≤ R.locals) (hrc : rm.cells = mc) (hrs : rm.slots = ms) : CallW R s args "GuidePlans" "GuidePlans" 199 y_G_hasTasksTooNear b_G_hasTasksTooNear 4 (some .boolean) (.code y_G_hasTasksTooNear b_G_hasTasksTooNear 4 (some .boolean) :: gw) rm mc ms 1 := cwV 1 hts (gw_V w3_17 w3_19 w0_24 w1_1 w3_20) rfl hrc hrs (by decide +kernel) hR
theorem k_G_202 {R : Room} {s : State} {args : Array Value} {rm : Room} {mc ms : Nat} (hts : ∀ w ∈ gw, w.before args s = true) (hR : rm.frames + 1 ≤ R.frames ∧ 8 + (2 + 11) + rm.locals ≤ R.locals) (hrc : rm.cells = mc) (hrs : rm.slots = ms) : CallW R s args "GuidePlans" "GuidePlans" 202 y_G_worksTooLong b_G_worksTooLong 2 (some .boolean) (.code y_G_worksTooLong b_G_worksTooLong 2 (some .boolean) :: gw) rm mc ms 1 := cwV 1 hts (gw_V w3_22 w3_24 w0_25 w1_1 w3_25) rfl hrc hrs (by decide +kernel) hR
theorem k_G_205 {R : Room} {s : State} {args : Array Value} {rm : Room} {mc ms : Nat} (hts : ∀ w ∈ gw, w.before args s = true) (hR : rm.frames + 1 ≤ R.frames ∧ 8 + (3 + 11) + rm.locals ≤ R.locals) (hrc : rm.cells = mc) (hrs : rm.slots = ms) : CallW R s args "GuidePlans" "GuidePlans$Day" 205 y_D_areTooNear b_D_areTooNear 3 (some .boolean) (.code y_D_areTooNear b_D_areTooNear 3 (some .boolean) :: gw) rm mc ms 2 := cwV 2 hts (gw_V w3_21 w1_183 w1_184 w1_2 w1_185) rfl hrc hrs (by decide +kernel) hR
theorem k_D_53 {R : Room} {s : State} {args : Array Value} {rm : Room} {mc ms : Nat} (hts : ∀ w ∈ gw, w.before args s = true) (hR : rm.frames + 1 ≤ R.frames ∧ 8 + (2 + 11) + rm.locals ≤ R.locals) (hrc : rm.cells = mc) (hrs : rm.slots = ms) : CallW R s args "GuidePlans$Day" "GuidePlans$Day" 53 y_D_hasTask b_D_hasTask 2 (some .boolean) (.code y_D_hasTask b_D_hasTask 2 (some .boolean) :: gw) rm mc ms 1 := cwV 1 hts (gw_V w1_170 w1_171 w1_172 w1_2 w1_173) rfl hrc hrs (by decide +kernel) hR
theorem k_D_57 {R : Room} {s : State} {args : Array Value} {rm : Room} {mc ms : Nat} (hts : ∀ w ∈ gw, w.before args s = true) (hR : rm.frames + 1 ≤ R.frames ∧ 8 + (2 + 11) + rm.locals ≤ R.locals) (hrc : rm.cells = mc) (hrs : rm.slots = ms) : CallW R s args "GuidePlans$Day" "GuidePlans$Day" 57 y_D_hasPerson b_D_hasPerson 2 (some .boolean) (.code y_D_hasPerson b_D_hasPerson 2 (some .boolean) :: gw) rm mc ms 1 := cwV 1 hts (gw_V w1_166 w1_167 w1_168 w1_2 w1_169) rfl hrc hrs (by decide +kernel) hR
theorem k_D_60 {R : Room} {s : State} {args : Array Value} {rm : Room} {mc ms : Nat} (hts : ∀ w ∈ gw, w.before args s = true) (hR : rm.frames + 1 ≤ R.frames ∧ 8 + (4 + 11) + rm.locals ≤ R.locals) (hrc : rm.cells = mc) (hrs : rm.slots = ms) : CallW R s args "GuidePlans$Day" "GuidePlans$Day" 60 y_D_isOffIn b_D_isOffIn 4 (some .boolean) (.code y_D_isOffIn b_D_isOffIn 4 (some .boolean) :: gw) rm mc ms 2 := cwV 2 hts (gw_V w1_174 w1_176 w0_3 w1_2 w1_177) rfl hrc hrs (by decide +kernel) hR
theorem k_S_46 {R : Room} {s : State} {args : Array Value} {rm : Room} {mc ms : Nat} (hts : ∀ w ∈ gw, w.before args s = true) (hR : rm.frames + 1 ≤ R.frames ∧ 8 + (8 + 11) + rm.locals ≤ R.locals) (hrc : rm.cells = mc) (hrs : rm.slots = ms) : CallW R s args "GuidePlans$Search" "GuidePlans$Search" 46 y_S_find b_S_find 8 (some .boolean) (.code y_S_find b_S_find 8 (some .boolean) :: gw) rm mc ms 4 := cwV 4 hts (gw_V w1_150 w1_152 w0_0 w1_3 w1_153) rfl hrc hrs (by decide +kernel) hR
theorem k_S_57 {R : Room} {s : State} {args : Array Value} {rm : Room} {mc ms : Nat} (hts : ∀ w ∈ gw, w.before args s = true) (hR : rm.frames + 1 ≤ R.frames ∧ 8 + (2 + 11) + rm.locals ≤ R.locals) (hrc : rm.cells = mc) (hrs : rm.slots = ms) : CallW R s args "GuidePlans$Search" "GuidePlans$Search" 57 y_S_bitOf b_S_bitOf 2 (some .int) (.code y_S_bitOf b_S_bitOf 2 (some .int) :: gw) rm mc ms 1 := cwV 1 hts (gw_V w1_154 w1_156 w0_1 w1_3 w1_157) rfl hrc hrs (by decide +kernel) hR
theorem k_S_61 {R : Room} {s : State} {args : Array Value} {rm : Room} {mc ms : Nat} (hts : ∀ w ∈ gw, w.before args s = true) (hR : rm.frames + 1 ≤ R.frames ∧ 8 + (5 + 11) + rm.locals ≤ R.locals) (hrc : rm.cells = mc) (hrs : rm.slots = ms) : CallW R s args "GuidePlans$Search" "GuidePlans$Search" 61 y_S_bitsOfSuiting b_S_bitsOfSuiting 5 (some .int) (.code y_S_bitsOfSuiting b_S_bitsOfSuiting 5 (some .int) :: gw) rm mc ms 2 := cwV 2 hts (gw_V w1_158 w1_160 w0_2 w1_3 w1_161) rfl hrc hrs (by decide +kernel) hR
theorem k_S_65 {R : Room} {s : State} {args : Array Value} {rm : Room} {mc ms : Nat} (hts : ∀ w ∈ gw, w.before args s = true) (hR : rm.frames + 1 ≤ R.frames ∧ 8 + (5 + 11) + rm.locals ≤ R.locals) (hrc : rm.cells = mc) (hrs : rm.slots = ms) : CallW R s args "GuidePlans$Search" "GuidePlans$Search" 65 y_S_bitsOfTooNear b_S_bitsOfTooNear 5 (some .int) (.code y_S_bitsOfTooNear b_S_bitsOfTooNear 5 (some .int) :: gw) rm mc ms 2 := cwV 2 hts (gw_V w1_178 w1_180 w0_4 w1_3 w1_181) rfl hrc hrs (by decide +kernel) hR
theorem k_S_68 {R : Room} {s : State} {args : Array Value} {rm : Room} {mc ms : Nat} (hts : ∀ w ∈ gw, w.before args s = true) (hR : rm.frames + 1 ≤ R.frames ∧ 8 + (6 + 11) + rm.locals ≤ R.locals) (hrc : rm.cells = mc) (hrs : rm.slots = ms) : CallW R s args "GuidePlans$Search" "GuidePlans$Search" 68 y_S_place b_S_place 6 none (.code y_S_place b_S_place 6 none :: gw) rm mc ms 4 := cwV 4 hts (gw_V w1_186 w1_188 w0_5 w1_3 w1_189) rfl hrc hrs (by decide +kernel) hR
theorem k_S_75 {R : Room} {s : State} {args : Array Value} {rm : Room} {mc ms : Nat} (hts : ∀ w ∈ gw, w.before args s = true) (hR : rm.frames + 1 ≤ R.frames ∧ 8 + (3 + 11) + rm.locals ≤ R.locals) (hrc : rm.cells = mc) (hrs : rm.slots = ms) : CallW R s args "GuidePlans$Search" "GuidePlans$Day" 75 y_D_suits b_D_suits 3 (some .boolean) (.code y_D_suits b_D_suits 3 (some .boolean) :: gw) rm mc ms 2 := cwV 2 hts (gw_V w1_162 w1_163 w1_164 w1_2 w1_165) rfl hrc hrs (by decide +kernel) hR
theorem k_S_79 {R : Room} {s : State} {args : Array Value} {rm : Room} {mc ms : Nat} (hts : ∀ w ∈ gw, w.before args s = true) (hR : rm.frames + 1 ≤ R.frames ∧ 8 + (3 + 11) + rm.locals ≤ R.locals) (hrc : rm.cells = mc) (hrs : rm.slots = ms) : CallW R s args "GuidePlans$Search" "GuidePlans$Day" 79 y_D_areTooNear b_D_areTooNear 3 (some .boolean) (.code y_D_areTooNear b_D_areTooNear 3 (some .boolean) :: gw) rm mc ms 2 := cwV 2 hts (gw_V w1_182 w1_183 w1_184 w1_2 w1_185) rfl hrc hrs (by decide +kernel) hR
theorem k_S_82 {R : Room} {s : State} {args : Array Value} {rm : Room} {mc ms : Nat} (hts : ∀ w ∈ gw, w.before args s = true) (hR : rm.frames + 1 ≤ R.frames ∧ 8 + (4 + 11) + rm.locals ≤ R.locals) (hrc : rm.cells = mc) (hrs : rm.slots = ms) : CallW R s args "GuidePlans$Search" "GuidePlans$Search" 82 y_S_keepTrial b_S_keepTrial 4 none (.code y_S_keepTrial b_S_keepTrial 4 none :: gw) rm mc ms 2 := cwV 2 hts (gw_V w1_190 w1_192 w0_6 w1_3 w1_193) rfl hrc hrs (by decide +kernel) hR
theorem k_S_86 {R : Room} {s : State} {args : Array Value} {rm : Room} {mc ms : Nat} (hts : ∀ w ∈ gw, w.before args s = true) (hR : rm.frames + 1 ≤ R.frames ∧ 8 + (4 + 11) + rm.locals ≤ R.locals) (hrc : rm.cells = mc) (hrs : rm.slots = ms) : CallW R s args "GuidePlans$Search" "GuidePlans$Search" 86 y_S_mayTake b_S_mayTake 4 (some .boolean) (.code y_S_mayTake b_S_mayTake 4 (some .boolean) :: gw) rm mc ms 3 := cwV 3 hts (gw_V w1_194 w1_196 w0_7 w1_3 w1_197) rfl hrc hrs (by decide +kernel) hR
theorem k_S_90 {R : Room} {s : State} {args : Array Value} {rm : Room} {mc ms : Nat} (hts : ∀ w ∈ gw, w.before args s = true) (hR : rm.frames + 1 ≤ R.frames ∧ 8 + (8 + 11) + rm.locals ≤ R.locals) (hrc : rm.cells = mc) (hrs : rm.slots = ms) : CallW R s args "GuidePlans$Search" "GuidePlans$Search" 90 y_S_placePerson b_S_placePerson 8 none (.code y_S_placePerson b_S_placePerson 8 none :: gw) rm mc ms 5 := cwV 5 hts (gw_V w1_202 w1_204 w0_8 w1_3 w1_205) rfl hrc hrs (by decide +kernel) hR
theorem k_S_94 {R : Room} {s : State} {args : Array Value} {rm : Room} {mc ms : Nat} (hts : ∀ w ∈ gw, w.before args s = true) (hR : rm.frames + 1 ≤ R.frames ∧ 8 + (5 + 11) + rm.locals ≤ R.locals) (hrc : rm.cells = mc) (hrs : rm.slots = ms) : CallW R s args "GuidePlans$Search" "GuidePlans$Search" 94 y_S_weightOf b_S_weightOf 5 (some .int) (.code y_S_weightOf b_S_weightOf 5 (some .int) :: gw) rm mc ms 3 := cwV 3 hts (gw_V w1_212 w1_214 w0_9 w1_3 w1_215) rfl hrc hrs (by decide +kernel) hR
theorem k_S_98 {R : Room} {s : State} {args : Array Value} {rm : Room} {mc ms : Nat} (hts : ∀ w ∈ gw, w.before args s = true) (hR : rm.frames + 1 ≤ R.frames ∧ 8 + (2 + 11) + rm.locals ≤ R.locals) (hrc : rm.cells = mc) (hrs : rm.slots = ms) : CallW R s args "GuidePlans$Search" "GuidePlans$Day" 98 y_D_lengthOf b_D_lengthOf 2 (some .int) (.code y_D_lengthOf b_D_lengthOf 2 (some .int) :: gw) rm mc ms 1 := cwV 1 hts (gw_V w1_198 w1_199 w1_200 w1_2 w1_201) rfl hrc hrs (by decide +kernel) hR
theorem k_S_104 {R : Room} {s : State} {args : Array Value} {rm : Room} {mc ms : Nat} (hts : ∀ w ∈ gw, w.before args s = true) (hR : rm.frames + 1 ≤ R.frames ∧ 8 + (1 + 11) + rm.locals ≤ R.locals) (hrc : rm.cells = mc) (hrs : rm.slots = ms) : CallB R s args "GuidePlans$Search" 104 y_J_bitCount b_J_bitCount 1 (some .int) (.code y_J_bitCount b_J_bitCount 1 (some .int) :: gw) rm mc ms 1 ∧ (Cond.static y_J_bitCount).before args s = true := ⟨callB_of 1 hts (gw_c w1_208) rfl hrc hrs (hts _ w1_11) (hts _ w1_206) (by decide +kernel) hR, hts _ w1_207⟩
theorem k_L_7 {R : Room} {s : State} {args : Array Value} {rm : Room} {mc ms : Nat} (hts : ∀ w ∈ gw, w.before args s = true) (hR : rm.frames + 1 ≤ R.frames ∧ 8 + (2 + 11) + rm.locals ≤ R.locals) (hrc : rm.cells = mc) (hrs : rm.slots = ms) : CallW R s args "GuidePlansLaw" "GuidePlans" 7 y_G_person b_G_person 2 (some .int) (.code y_G_person b_G_person 2 (some .int) :: gw) rm mc ms 1 := cwV 1 hts (gw_V w2_11 w2_12 w2_13 w1_1 w2_14) rfl hrc hrs (by decide +kernel) hR
theorem k_L_17 {R : Room} {s : State} {args : Array Value} {rm : Room} {mc ms : Nat} (hts : ∀ w ∈ gw, w.before args s = true) (hR : rm.frames + 1 ≤ R.frames ∧ 8 + (4 + 11) + rm.locals ≤ R.locals) (hrc : rm.cells = mc) (hrs : rm.slots = ms) : CallW R s args "GuidePlansLaw" "GuidePlans" 17 y_G_off b_G_off 4 (some .int) (.code y_G_off b_G_off 4 (some .int) :: gw) rm mc ms 3 := cwV 3 hts (gw_V w2_107 w2_108 w2_109 w1_1 w2_110) rfl hrc hrs (by decide +kernel) hR
theorem k_L_23 {R : Room} {s : State} {args : Array Value} {rm : Room} {mc ms : Nat} (hts : ∀ w ∈ gw, w.before args s = true) (hR : rm.frames + 1 ≤ R.frames ∧ 8 + (5 + 11) + rm.locals ≤ R.locals) (hrc : rm.cells = mc) (hrs : rm.slots = ms) : CallW R s args "GuidePlansLaw" "GuidePlans" 23 y_G_task b_G_task 5 (some .int) (.code y_G_task b_G_task 5 (some .int) :: gw) rm mc ms 4 := cwV 4 hts (gw_V w2_149 w2_150 w2_151 w1_1 w2_152) rfl hrc hrs (by decide +kernel) hR
theorem k_L_27 {R : Room} {s : State} {args : Array Value} {rm : Room} {mc ms : Nat} (hts : ∀ w ∈ gw, w.before args s = true) (hR : rm.frames + 1 ≤ R.frames ∧ 8 + (3 + 11) + rm.locals ≤ R.locals) (hrc : rm.cells = mc) (hrs : rm.slots = ms) : CallW R s args "GuidePlansLaw" "GuidePlans" 27 y_G_rest b_G_rest 3 (some .int) (.code y_G_rest b_G_rest 3 (some .int) :: gw) rm mc ms 1 := cwV 1 hts (gw_V w2_162 w2_163 w2_164 w1_1 w2_165) rfl hrc hrs (by decide +kernel) hR
theorem k_L_30 {R : Room} {s : State} {args : Array Value} {rm : Room} {mc ms : Nat} (hts : ∀ w ∈ gw, w.before args s = true) (hR : rm.frames + 1 ≤ R.frames ∧ 8 + (3 + 11) + rm.locals ≤ R.locals) (hrc : rm.cells = mc) (hrs : rm.slots = ms) : CallW R s args "GuidePlansLaw" "GuidePlans" 30 y_G_limit b_G_limit 3 (some .int) (.code y_G_limit b_G_limit 3 (some .int) :: gw) rm mc ms 1 := cwV 1 hts (gw_V w2_174 w2_175 w2_176 w1_1 w2_177) rfl hrc hrs (by decide +kernel) hR
theorem k_L_33 {R : Room} {s : State} {args : Array Value} {rm : Room} {mc ms : Nat} (hts : ∀ w ∈ gw, w.before args s = true) (hR : rm.frames + 1 ≤ R.frames ∧ 8 + (3 + 11) + rm.locals ≤ R.locals) (hrc : rm.cells = mc) (hrs : rm.slots = ms) : CallW R s args "GuidePlansLaw" "GuidePlans" 33 y_G_freeze b_G_freeze 3 (some .int) (.code y_G_freeze b_G_freeze 3 (some .int) :: gw) rm mc ms 1 := cwV 1 hts (gw_V w2_181 w2_182 w2_183 w1_1 w2_184) rfl hrc hrs (by decide +kernel) hR
theorem k_L_36 {R : Room} {s : State} {args : Array Value} {rm : Room} {mc ms : Nat} (hts : ∀ w ∈ gw, w.before args s = true) (hR : rm.frames + 1 ≤ R.frames ∧ 8 + (2 + 11) + rm.locals ≤ R.locals) (hrc : rm.cells = mc) (hrs : rm.slots = ms) : CallW R s args "GuidePlansLaw" "GuidePlans" 36 y_G_of b_G_of 2 (some .int) (.code y_G_of b_G_of 2 (some .int) :: gw) rm mc ms 1 := cwV 1 hts (gw_V w2_188 w2_189 w2_190 w1_1 w2_191) rfl hrc hrs (by decide +kernel) hR
theorem k_L_39 {R : Room} {s : State} {args : Array Value} {rm : Room} {mc ms : Nat} (hts : ∀ w ∈ gw, w.before args s = true) (hR : rm.frames + 1 ≤ R.frames ∧ 8 + (1 + 11) + rm.locals ≤ R.locals) (hrc : rm.cells = mc) (hrs : rm.slots = ms) : CallW R s args "GuidePlansLaw" "GuidePlans" 39 y_G_cost b_G_cost 1 (some .int) (.code y_G_cost b_G_cost 1 (some .int) :: gw) rm mc ms 0 := cwV 0 hts (gw_V w2_201 w2_202 w2_203 w1_1 w2_204) rfl hrc hrs (by decide +kernel) hR
theorem k_L_43 {R : Room} {s : State} {args : Array Value} {rm : Room} {mc ms : Nat} (hts : ∀ w ∈ gw, w.before args s = true) (hR : rm.frames + 1 ≤ R.frames ∧ 8 + (3 + 11) + rm.locals ≤ R.locals) (hrc : rm.cells = mc) (hrs : rm.slots = ms) : CallW R s args "GuidePlansLaw" "GuidePlans" 43 y_G_absent b_G_absent 3 (some .int) (.code y_G_absent b_G_absent 3 (some .int) :: gw) rm mc ms 2 := cwV 2 hts (gw_V w2_213 w2_214 w2_215 w1_1 w2_216) rfl hrc hrs (by decide +kernel) hR
theorem k_L_47 {R : Room} {s : State} {args : Array Value} {rm : Room} {mc ms : Nat} (hts : ∀ w ∈ gw, w.before args s = true) (hR : rm.frames + 1 ≤ R.frames ∧ 8 + (2 + 11) + rm.locals ≤ R.locals) (hrc : rm.cells = mc) (hrs : rm.slots = ms) : CallW R s args "GuidePlansLaw" "GuidePlans" 47 y_G_changed b_G_changed 2 (some .int) (.code y_G_changed b_G_changed 2 (some .int) :: gw) rm mc ms 1 := cwV 1 hts (gw_V w2_232 w2_233 w2_234 w1_1 w2_235) rfl hrc hrs (by decide +kernel) hR
theorem k_L_50 {R : Room} {s : State} {args : Array Value} {rm : Room} {mc ms : Nat} (hts : ∀ w ∈ gw, w.before args s = true) (hR : rm.frames + 1 ≤ R.frames ∧ 8 + (6 + 11) + rm.locals ≤ R.locals) (hrc : rm.cells = mc) (hrs : rm.slots = ms) : CallW R s args "GuidePlansLaw" "GuidePlans" 50 y_G_swap b_G_swap 6 (some .int) (.code y_G_swap b_G_swap 6 (some .int) :: gw) rm mc ms 2 := cwV 2 hts (gw_V w3_0 w3_1 w3_2 w1_1 w3_3) rfl hrc hrs (by decide +kernel) hR
theorem k_L_53 {R : Room} {s : State} {args : Array Value} {rm : Room} {mc ms : Nat} (hts : ∀ w ∈ gw, w.before args s = true) (hR : rm.frames + 1 ≤ R.frames ∧ 8 + (2 + 11) + rm.locals ≤ R.locals) (hrc : rm.cells = mc) (hrs : rm.slots = ms) : CallW R s args "GuidePlansLaw" "GuidePlans" 53 y_G_work b_G_work 2 (some .int) (.code y_G_work b_G_work 2 (some .int) :: gw) rm mc ms 1 := cwV 1 hts (gw_V w3_34 w3_35 w3_36 w1_1 w3_37) rfl hrc hrs (by decide +kernel) hR
theorem k_L_56 {R : Room} {s : State} {args : Array Value} {rm : Room} {mc ms : Nat} (hts : ∀ w ∈ gw, w.before args s = true) (hR : rm.frames + 1 ≤ R.frames ∧ 8 + (2 + 11) + rm.locals ≤ R.locals) (hrc : rm.cells = mc) (hrs : rm.slots = ms) : CallW R s args "GuidePlansLaw" "GuidePlans" 56 y_G_count b_G_count 2 (some .int) (.code y_G_count b_G_count 2 (some .int) :: gw) rm mc ms 1 := cwV 1 hts (gw_V w3_41 w3_42 w3_43 w1_1 w3_44) rfl hrc hrs (by decide +kernel) hR
theorem k_L_59 {R : Room} {s : State} {args : Array Value} {rm : Room} {mc ms : Nat} (hts : ∀ w ∈ gw, w.before args s = true) (hR : rm.frames + 1 ≤ R.frames ∧ 8 + (1 + 11) + rm.locals ≤ R.locals) (hrc : rm.cells = mc) (hrs : rm.slots = ms) : CallB R s args "GuidePlansLaw" 59 y_G_init b_G_init 1 none (.code y_G_init b_G_init 1 none :: gw) rm mc ms 0 ∧ y_G_init.name = "<init>" ∧ (Cond.instanceMethod y_G_init).before args s = true := ⟨callB_of 0 hts (gw_c w1_17) rfl hrc hrs (hts _ w1_1) (hts _ w1_15) (by decide +kernel) hR, rfl, hts _ w1_16⟩
theorem k_L_62 {R : Room} {s : State} {args : Array Value} {rm : Room} {mc ms : Nat} (hts : ∀ w ∈ gw, w.before args s = true) (hR : rm.frames + 1 ≤ R.frames ∧ 8 + (2 + 11) + rm.locals ≤ R.locals) (hrc : rm.cells = mc) (hrs : rm.slots = ms) : CallB R s args "GuidePlansLaw" 62 y_M_init b_M_init 2 none (.code y_M_init b_M_init 2 none :: gw) rm mc ms 0 ∧ y_M_init.name = "<init>" ∧ (Cond.instanceMethod y_M_init).before args s = true := ⟨callB_of 0 hts (gw_c w3_50) rfl hrc hrs (hts _ w1_4) (hts _ w3_48) (by decide +kernel) hR, rfl, hts _ w3_49⟩
theorem k_L_68 {R : Room} {s : State} {args : Array Value} {rm : Room} {mc ms : Nat} (hts : ∀ w ∈ gw, w.before args s = true) (hR : rm.frames + 1 ≤ R.frames ∧ 8 + (2 + 11) + rm.locals ≤ R.locals) (hrc : rm.cells = mc) (hrs : rm.slots = ms) : CallW R s args "GuidePlansLaw" "GuidePlansModel" 68 y_M_person b_M_person 2 (some .int) (.code y_M_person b_M_person 2 (some .int) :: gw) rm mc ms 1 := cwV 1 hts (gw_V w3_138 w3_139 w3_140 w1_4 w3_141) rfl hrc hrs (by decide +kernel) hR
theorem k_L_69 {R : Room} {s : State} {args : Array Value} {rm : Room} {mc ms : Nat} (hts : ∀ w ∈ gw, w.before args s = true) (hR : rm.frames + 1 ≤ R.frames ∧ 8 + (1 + 11) + rm.locals ≤ R.locals) (hrc : rm.cells = mc) (hrs : rm.slots = ms) : CallW R s args "GuidePlansLaw" "GuidePlansModel" 69 y_M_thrown b_M_thrown 1 (some .int) (.code y_M_thrown b_M_thrown 1 (some .int) :: gw) rm mc ms 0 := cwV 0 hts (gw_V w3_134 w3_135 w3_136 w1_4 w3_137) rfl hrc hrs (by decide +kernel) hR
theorem k_L_75 {R : Room} {s : State} {args : Array Value} {rm : Room} {mc ms : Nat} (hts : ∀ w ∈ gw, w.before args s = true) (hR : rm.frames + 1 ≤ R.frames ∧ 8 + (4 + 11) + rm.locals ≤ R.locals) (hrc : rm.cells = mc) (hrs : rm.slots = ms) : CallW R s args "GuidePlansLaw" "GuidePlansModel" 75 y_M_off b_M_off 4 (some .int) (.code y_M_off b_M_off 4 (some .int) :: gw) rm mc ms 3 := cwV 3 hts (gw_V w3_149 w3_150 w3_151 w1_4 w3_152) rfl hrc hrs (by decide +kernel) hR
theorem k_L_79 {R : Room} {s : State} {args : Array Value} {rm : Room} {mc ms : Nat} (hts : ∀ w ∈ gw, w.before args s = true) (hR : rm.frames + 1 ≤ R.frames ∧ 8 + (5 + 11) + rm.locals ≤ R.locals) (hrc : rm.cells = mc) (hrs : rm.slots = ms) : CallW R s args "GuidePlansLaw" "GuidePlansModel" 79 y_M_task b_M_task 5 (some .int) (.code y_M_task b_M_task 5 (some .int) :: gw) rm mc ms 4 := cwV 4 hts (gw_V w3_164 w3_165 w3_166 w1_4 w3_167) rfl hrc hrs (by decide +kernel) hR
theorem k_L_82 {R : Room} {s : State} {args : Array Value} {rm : Room} {mc ms : Nat} (hts : ∀ w ∈ gw, w.before args s = true) (hR : rm.frames + 1 ≤ R.frames ∧ 8 + (3 + 11) + rm.locals ≤ R.locals) (hrc : rm.cells = mc) (hrs : rm.slots = ms) : CallW R s args "GuidePlansLaw" "GuidePlansModel" 82 y_M_rest b_M_rest 3 (some .int) (.code y_M_rest b_M_rest 3 (some .int) :: gw) rm mc ms 1 := cwV 1 hts (gw_V w3_168 w3_169 w3_170 w1_4 w3_171) rfl hrc hrs (by decide +kernel) hR
theorem k_L_85 {R : Room} {s : State} {args : Array Value} {rm : Room} {mc ms : Nat} (hts : ∀ w ∈ gw, w.before args s = true) (hR : rm.frames + 1 ≤ R.frames ∧ 8 + (3 + 11) + rm.locals ≤ R.locals) (hrc : rm.cells = mc) (hrs : rm.slots = ms) : CallW R s args "GuidePlansLaw" "GuidePlansModel" 85 y_M_limit b_M_limit 3 (some .int) (.code y_M_limit b_M_limit 3 (some .int) :: gw) rm mc ms 1 := cwV 1 hts (gw_V w3_172 w3_173 w3_174 w1_4 w3_175) rfl hrc hrs (by decide +kernel) hR
theorem k_L_88 {R : Room} {s : State} {args : Array Value} {rm : Room} {mc ms : Nat} (hts : ∀ w ∈ gw, w.before args s = true) (hR : rm.frames + 1 ≤ R.frames ∧ 8 + (3 + 11) + rm.locals ≤ R.locals) (hrc : rm.cells = mc) (hrs : rm.slots = ms) : CallW R s args "GuidePlansLaw" "GuidePlansModel" 88 y_M_freeze b_M_freeze 3 (some .int) (.code y_M_freeze b_M_freeze 3 (some .int) :: gw) rm mc ms 1 := cwV 1 hts (gw_V w3_176 w3_177 w3_178 w1_4 w3_179) rfl hrc hrs (by decide +kernel) hR
theorem k_L_89 {R : Room} {s : State} {args : Array Value} {rm : Room} {mc ms : Nat} (hts : ∀ w ∈ gw, w.before args s = true) (hR : rm.frames + 1 ≤ R.frames ∧ 8 + (1 + 11) + rm.locals ≤ R.locals) (hrc : rm.cells = mc) (hrs : rm.slots = ms) : CallW R s args "GuidePlansLaw" "GuidePlans" 89 y_G_run b_G_run 1 (some .int) (.code y_G_run b_G_run 1 (some .int) :: gw) rm mc ms 0 := cwV 0 hts (gw_V w1_142 w1_143 w1_144 w1_1 w1_145) rfl hrc hrs (by decide +kernel) hR
theorem k_L_92 {R : Room} {s : State} {args : Array Value} {rm : Room} {mc ms : Nat} (hts : ∀ w ∈ gw, w.before args s = true) (hR : rm.frames + 1 ≤ R.frames ∧ 8 + (2 + 11) + rm.locals ≤ R.locals) (hrc : rm.cells = mc) (hrs : rm.slots = ms) : CallW R s args "GuidePlansLaw" "GuidePlansModel" 92 y_M_run b_M_run 2 (some .int) (.code y_M_run b_M_run 2 (some .int) :: gw) rm mc ms 0 := cwV 0 hts (gw_V w3_180 w3_181 w3_182 w1_4 w3_183) rfl hrc hrs (by decide +kernel) hR
theorem k_L_93 {R : Room} {s : State} {args : Array Value} {rm : Room} {mc ms : Nat} (hts : ∀ w ∈ gw, w.before args s = true) (hR : rm.frames + 1 ≤ R.frames ∧ 8 + (1 + 11) + rm.locals ≤ R.locals) (hrc : rm.cells = mc) (hrs : rm.slots = ms) : CallW R s args "GuidePlansLaw" "GuidePlans" 93 y_G_told b_G_told 1 (some .int) (.code y_G_told b_G_told 1 (some .int) :: gw) rm mc ms 0 := cwV 0 hts (gw_V w1_232 w1_233 w1_234 w1_1 w1_235) rfl hrc hrs (by decide +kernel) hR
theorem k_L_96 {R : Room} {s : State} {args : Array Value} {rm : Room} {mc ms : Nat} (hts : ∀ w ∈ gw, w.before args s = true) (hR : rm.frames + 1 ≤ R.frames ∧ 8 + (1 + 11) + rm.locals ≤ R.locals) (hrc : rm.cells = mc) (hrs : rm.slots = ms) : CallW R s args "GuidePlansLaw" "GuidePlansModel" 96 y_M_told b_M_told 1 (some .int) (.code y_M_told b_M_told 1 (some .int) :: gw) rm mc ms 0 := cwV 0 hts (gw_V w3_228 w3_229 w3_230 w1_4 w3_231) rfl hrc hrs (by decide +kernel) hR
theorem k_L_99 {R : Room} {s : State} {args : Array Value} {rm : Room} {mc ms : Nat} (hts : ∀ w ∈ gw, w.before args s = true) (hR : rm.frames + 1 ≤ R.frames ∧ 8 + (2 + 11) + rm.locals ≤ R.locals) (hrc : rm.cells = mc) (hrs : rm.slots = ms) : CallW R s args "GuidePlansLaw" "GuidePlansModel" 99 y_M_of b_M_of 2 (some .int) (.code y_M_of b_M_of 2 (some .int) :: gw) rm mc ms 1 := cwV 1 hts (gw_V w3_232 w3_233 w3_234 w1_4 w3_235) rfl hrc hrs (by decide +kernel) hR
theorem k_L_103 {R : Room} {s : State} {args : Array Value} {rm : Room} {mc ms : Nat} (hts : ∀ w ∈ gw, w.before args s = true) (hR : rm.frames + 1 ≤ R.frames ∧ 8 + (1 + 11) + rm.locals ≤ R.locals) (hrc : rm.cells = mc) (hrs : rm.slots = ms) : CallW R s args "GuidePlansLaw" "GuidePlansModel" 103 y_M_cost b_M_cost 1 (some .int) (.code y_M_cost b_M_cost 1 (some .int) :: gw) rm mc ms 0 := cwV 0 hts (gw_V w4_0 w4_1 w4_2 w1_4 w4_3) rfl hrc hrs (by decide +kernel) hR
theorem k_L_107 {R : Room} {s : State} {args : Array Value} {rm : Room} {mc ms : Nat} (hts : ∀ w ∈ gw, w.before args s = true) (hR : rm.frames + 1 ≤ R.frames ∧ 8 + (4 + 11) + rm.locals ≤ R.locals) (hrc : rm.cells = mc) (hrs : rm.slots = ms) : CallW R s args "GuidePlansLaw" "GuidePlansModel" 107 y_M_absent b_M_absent 4 (some .int) (.code y_M_absent b_M_absent 4 (some .int) :: gw) rm mc ms 2 := cwV 2 hts (gw_V w4_8 w4_9 w4_10 w1_4 w4_11) rfl hrc hrs (by decide +kernel) hR
theorem k_L_110 {R : Room} {s : State} {args : Array Value} {rm : Room} {mc ms : Nat} (hts : ∀ w ∈ gw, w.before args s = true) (hR : rm.frames + 1 ≤ R.frames ∧ 8 + (2 + 11) + rm.locals ≤ R.locals) (hrc : rm.cells = mc) (hrs : rm.slots = ms) : CallW R s args "GuidePlansLaw" "GuidePlansModel" 110 y_M_changed b_M_changed 2 (some .int) (.code y_M_changed b_M_changed 2 (some .int) :: gw) rm mc ms 1 := cwV 1 hts (gw_V w4_12 w4_13 w4_14 w1_4 w4_15) rfl hrc hrs (by decide +kernel) hR
theorem k_L_113 {R : Room} {s : State} {args : Array Value} {rm : Room} {mc ms : Nat} (hts : ∀ w ∈ gw, w.before args s = true) (hR : rm.frames + 1 ≤ R.frames ∧ 8 + (5 + 11) + rm.locals ≤ R.locals) (hrc : rm.cells = mc) (hrs : rm.slots = ms) : CallW R s args "GuidePlansLaw" "GuidePlansModel" 113 y_M_swap b_M_swap 5 (some .int) (.code y_M_swap b_M_swap 5 (some .int) :: gw) rm mc ms 2 := cwV 2 hts (gw_V w4_16 w4_17 w4_18 w1_4 w4_19) rfl hrc hrs (by decide +kernel) hR
theorem k_L_116 {R : Room} {s : State} {args : Array Value} {rm : Room} {mc ms : Nat} (hts : ∀ w ∈ gw, w.before args s = true) (hR : rm.frames + 1 ≤ R.frames ∧ 8 + (2 + 11) + rm.locals ≤ R.locals) (hrc : rm.cells = mc) (hrs : rm.slots = ms) : CallW R s args "GuidePlansLaw" "GuidePlansModel" 116 y_M_work b_M_work 2 (some .int) (.code y_M_work b_M_work 2 (some .int) :: gw) rm mc ms 1 := cwV 1 hts (gw_V w4_28 w4_29 w4_30 w1_4 w4_31) rfl hrc hrs (by decide +kernel) hR
theorem k_L_117 {R : Room} {s : State} {args : Array Value} {rm : Room} {mc ms : Nat} (hts : ∀ w ∈ gw, w.before args s = true) (hR : rm.frames + 1 ≤ R.frames ∧ 8 + (5 + 11) + rm.locals ≤ R.locals) (hrc : rm.cells = mc) (hrs : rm.slots = ms) : CallW R s args "GuidePlansLaw" "GuidePlans" 117 y_G_fair b_G_fair 5 (some .int) (.code y_G_fair b_G_fair 5 (some .int) :: gw) rm mc ms 0 := cwV 0 hts (gw_V w1_236 w1_237 w1_238 w1_1 w1_239) rfl hrc hrs (by decide +kernel) hR
theorem k_L_120 {R : Room} {s : State} {args : Array Value} {rm : Room} {mc ms : Nat} (hts : ∀ w ∈ gw, w.before args s = true) (hR : rm.frames + 1 ≤ R.frames ∧ 8 + (6 + 11) + rm.locals ≤ R.locals) (hrc : rm.cells = mc) (hrs : rm.slots = ms) : CallW R s args "GuidePlansLaw" "GuidePlansModel" 120 y_M_fair b_M_fair 6 (some .int) (.code y_M_fair b_M_fair 6 (some .int) :: gw) rm mc ms 0 := cwV 0 hts (gw_V w4_32 w4_33 w4_34 w1_4 w4_35) rfl hrc hrs (by decide +kernel) hR
theorem k_L_123 {R : Room} {s : State} {args : Array Value} {rm : Room} {mc ms : Nat} (hts : ∀ w ∈ gw, w.before args s = true) (hR : rm.frames + 1 ≤ R.frames ∧ 8 + (2 + 11) + rm.locals ≤ R.locals) (hrc : rm.cells = mc) (hrs : rm.slots = ms) : CallW R s args "GuidePlansLaw" "GuidePlansModel" 123 y_M_count b_M_count 2 (some .int) (.code y_M_count b_M_count 2 (some .int) :: gw) rm mc ms 1 := cwV 1 hts (gw_V w4_36 w4_37 w4_38 w1_4 w4_39) rfl hrc hrs (by decide +kernel) hR
theorem k_M_66 {R : Room} {s : State} {args : Array Value} {rm : Room} {mc ms : Nat} (hts : ∀ w ∈ gw, w.before args s = true) (hR : rm.frames + 1 ≤ R.frames ∧ 8 + (3 + 11) + rm.locals ≤ R.locals) (hrc : rm.cells = mc) (hrs : rm.slots = ms) : CallB R s args "GuidePlansModel" 66 y_M_within b_M_within 3 (some .boolean) (.code y_M_within b_M_within 3 (some .boolean) :: gw) rm mc ms 3 ∧ (Cond.static y_M_within).before args s = true := ⟨callB_of 3 hts (gw_c w3_144) rfl hrc hrs (hts _ w1_4) (hts _ w3_142) (by decide +kernel) hR, hts _ w3_143⟩
theorem k_M_70 {R : Room} {s : State} {args : Array Value} {rm : Room} {mc ms : Nat} (hts : ∀ w ∈ gw, w.before args s = true) (hR : rm.frames + 1 ≤ R.frames ∧ 8 + (4 + 11) + rm.locals ≤ R.locals) (hrc : rm.cells = mc) (hrs : rm.slots = ms) : CallW R s args "GuidePlansModel" "GuidePlansModel" 70 y_M_goes b_M_goes 4 (some .boolean) (.code y_M_goes b_M_goes 4 (some .boolean) :: gw) rm mc ms 3 := cwV 3 hts (gw_V w3_145 w3_147 w0_27 w1_4 w3_148) rfl hrc hrs (by decide +kernel) hR
theorem k_M_77 {R : Room} {s : State} {args : Array Value} {rm : Room} {mc ms : Nat} (hts : ∀ w ∈ gw, w.before args s = true) (hR : rm.frames + 1 ≤ R.frames ∧ 8 + (2 + 11) + rm.locals ≤ R.locals) (hrc : rm.cells = mc) (hrs : rm.slots = ms) : CallW R s args "GuidePlansModel" "GuidePlansModel" 77 y_M_isPerson b_M_isPerson 2 (some .boolean) (.code y_M_isPerson b_M_isPerson 2 (some .boolean) :: gw) rm mc ms 1 := cwV 1 hts (gw_V w3_153 w3_155 w0_28 w1_4 w3_156) rfl hrc hrs (by decide +kernel) hR
theorem k_M_81 {R : Room} {s : State} {args : Array Value} {rm : Room} {mc ms : Nat} (hts : ∀ w ∈ gw, w.before args s = true) (hR : rm.frames + 1 ≤ R.frames ∧ 8 + (2 + 11) + rm.locals ≤ R.locals) (hrc : rm.cells = mc) (hrs : rm.slots = ms) : CallB R s args "GuidePlansModel" 81 y_M_isSpan b_M_isSpan 2 (some .boolean) (.code y_M_isSpan b_M_isSpan 2 (some .boolean) :: gw) rm mc ms 2 ∧ (Cond.static y_M_isSpan).before args s = true := ⟨callB_of 2 hts (gw_c w3_159) rfl hrc hrs (hts _ w1_4) (hts _ w3_157) (by decide +kernel) hR, hts _ w3_158⟩
theorem k_M_85 {R : Room} {s : State} {args : Array Value} {rm : Room} {mc ms : Nat} (hts : ∀ w ∈ gw, w.before args s = true) (hR : rm.frames + 1 ≤ R.frames ∧ 8 + (4 + 11) + rm.locals ≤ R.locals) (hrc : rm.cells = mc) (hrs : rm.slots = ms) : CallW R s args "GuidePlansModel" "GuidePlansModel" 85 y_M_leave b_M_leave 4 none (.code y_M_leave b_M_leave 4 none :: gw) rm mc ms 3 := cwV 3 hts (gw_V w3_160 w3_162 w0_29 w1_4 w3_163) rfl hrc hrs (by decide +kernel) hR
theorem k_M_95 {R : Room} {s : State} {args : Array Value} {rm : Room} {mc ms : Nat} (hts : ∀ w ∈ gw, w.before args s = true) (hR : rm.frames + 1 ≤ R.frames ∧ 8 + (3 + 11) + rm.locals ≤ R.locals) (hrc : rm.cells = mc) (hrs : rm.slots = ms) : CallW R s args "GuidePlansModel" "GuidePlansModel" 95 y_M_isNear b_M_isNear 3 (some .boolean) (.code y_M_isNear b_M_isNear 3 (some .boolean) :: gw) rm mc ms 2 := cwV 2 hts (gw_V w3_204 w3_206 w0_35 w1_4 w3_207) rfl hrc hrs (by decide +kernel) hR
theorem k_M_98 {R : Room} {s : State} {args : Array Value} {rm : Room} {mc ms : Nat} (hts : ∀ w ∈ gw, w.before args s = true) (hR : rm.frames + 1 ≤ R.frames ∧ 8 + (5 + 11) + rm.locals ≤ R.locals) (hrc : rm.cells = mc) (hrs : rm.slots = ms) : CallW R s args "GuidePlansModel" "GuidePlansModel" 98 y_M_suits b_M_suits 5 (some .boolean) (.code y_M_suits b_M_suits 5 (some .boolean) :: gw) rm mc ms 2 := cwV 2 hts (gw_V w3_192 w3_194 w0_32 w1_4 w3_195) rfl hrc hrs (by decide +kernel) hR
theorem k_M_101 {R : Room} {s : State} {args : Array Value} {rm : Room} {mc ms : Nat} (hts : ∀ w ∈ gw, w.before args s = true) (hR : rm.frames + 1 ≤ R.frames ∧ 8 + (4 + 11) + rm.locals ≤ R.locals) (hrc : rm.cells = mc) (hrs : rm.slots = ms) : CallW R s args "GuidePlansModel" "GuidePlansModel" 101 y_M_quarters b_M_quarters 4 (some .int) (.code y_M_quarters b_M_quarters 4 (some .int) :: gw) rm mc ms 1 := cwV 1 hts (gw_V w3_196 w3_198 w0_33 w1_4 w3_199) rfl hrc hrs (by decide +kernel) hR
theorem k_M_105 {R : Room} {s : State} {args : Array Value} {rm : Room} {mc ms : Nat} (hts : ∀ w ∈ gw, w.before args s = true) (hR : rm.frames + 1 ≤ R.frames ∧ 8 + (5 + 11) + rm.locals ≤ R.locals) (hrc : rm.cells = mc) (hrs : rm.slots = ms) : CallW R s args "GuidePlansModel" "GuidePlansModel" 105 y_M_hasNear b_M_hasNear 5 (some .boolean) (.code y_M_hasNear b_M_hasNear 5 (some .boolean) :: gw) rm mc ms 1 := cwV 1 hts (gw_V w3_200 w3_202 w0_34 w1_4 w3_203) rfl hrc hrs (by decide +kernel) hR
theorem k_M_115 {R : Room} {s : State} {args : Array Value} {rm : Room} {mc ms : Nat} (hts : ∀ w ∈ gw, w.before args s = true) (hR : rm.frames + 1 ≤ R.frames ∧ 8 + (3 + 11) + rm.locals ≤ R.locals) (hrc : rm.cells = mc) (hrs : rm.slots = ms) : CallW R s args "GuidePlansModel" "GuidePlansModel" 115 y_M_may b_M_may 3 (some .boolean) (.code y_M_may b_M_may 3 (some .boolean) :: gw) rm mc ms 0 := cwV 0 hts (gw_V w3_188 w3_190 w0_31 w1_4 w3_191) rfl hrc hrs (by decide +kernel) hR
theorem k_M_119 {R : Room} {s : State} {args : Array Value} {rm : Room} {mc ms : Nat} (hts : ∀ w ∈ gw, w.before args s = true) (hR : rm.frames + 1 ≤ R.frames ∧ 8 + (2 + 11) + rm.locals ≤ R.locals) (hrc : rm.cells = mc) (hrs : rm.slots = ms) : CallW R s args "GuidePlansModel" "GuidePlansModel" 119 y_M_full b_M_full 2 (some .int) (.code y_M_full b_M_full 2 (some .int) :: gw) rm mc ms 0 := cwV 0 hts (gw_V w3_208 w3_210 w0_36 w1_4 w3_211) rfl hrc hrs (by decide +kernel) hR
theorem k_M_123 {R : Room} {s : State} {args : Array Value} {rm : Room} {mc ms : Nat} (hts : ∀ w ∈ gw, w.before args s = true) (hR : rm.frames + 1 ≤ R.frames ∧ 8 + (3 + 11) + rm.locals ≤ R.locals) (hrc : rm.cells = mc) (hrs : rm.slots = ms) : CallW R s args "GuidePlansModel" "GuidePlansModel" 123 y_M_differences b_M_differences 3 (some .int) (.code y_M_differences b_M_differences 3 (some .int) :: gw) rm mc ms 0 := cwV 0 hts (gw_V w3_212 w3_214 w0_37 w1_4 w3_215) rfl hrc hrs (by decide +kernel) hR
theorem k_M_129 {R : Room} {s : State} {args : Array Value} {rm : Room} {mc ms : Nat} (hts : ∀ w ∈ gw, w.before args s = true) (hR : rm.frames + 1 ≤ R.frames ∧ 8 + (5 + 11) + rm.locals ≤ R.locals) (hrc : rm.cells = mc) (hrs : rm.slots = ms) : CallW R s args "GuidePlansModel" "GuidePlansModel" 129 y_M_costOf b_M_costOf 5 (some .int) (.code y_M_costOf b_M_costOf 5 (some .int) :: gw) rm mc ms 0 := cwV 0 hts (gw_V w3_216 w3_218 w0_38 w1_4 w3_219) rfl hrc hrs (by decide +kernel) hR
theorem k_M_135 {R : Room} {s : State} {args : Array Value} {rm : Room} {mc ms : Nat} (hts : ∀ w ∈ gw, w.before args s = true) (hR : rm.frames + 1 ≤ R.frames ∧ 8 + (3 + 11) + rm.locals ≤ R.locals) (hrc : rm.cells = mc) (hrs : rm.slots = ms) : CallW R s args "GuidePlansModel" "GuidePlansModel" 135 y_M_keep b_M_keep 3 none (.code y_M_keep b_M_keep 3 none :: gw) rm mc ms 1 := cwV 1 hts (gw_V w3_220 w3_222 w0_39 w1_4 w3_223) rfl hrc hrs (by decide +kernel) hR
theorem k_M_139 {R : Room} {s : State} {args : Array Value} {rm : Room} {mc ms : Nat} (hts : ∀ w ∈ gw, w.before args s = true) (hR : rm.frames + 1 ≤ R.frames ∧ 8 + (8 + 11) + rm.locals ≤ R.locals) (hrc : rm.cells = mc) (hrs : rm.slots = ms) : CallW R s args "GuidePlansModel" "GuidePlansModel" 139 y_M_seek b_M_seek 8 none (.code y_M_seek b_M_seek 8 none :: gw) rm mc ms 1 := cwV 1 hts (gw_V w3_184 w3_186 w0_30 w1_4 w3_187) rfl hrc hrs (by decide +kernel) hR
theorem k_M_143 {R : Room} {s : State} {args : Array Value} {rm : Room} {mc ms : Nat} (hts : ∀ w ∈ gw, w.before args s = true) (hR : rm.frames + 1 ≤ R.frames ∧ 8 + (2 + 11) + rm.locals ≤ R.locals) (hrc : rm.cells = mc) (hrs : rm.slots = ms) : CallW R s args "GuidePlansModel" "GuidePlansModel" 143 y_M_tell b_M_tell 2 none (.code y_M_tell b_M_tell 2 none :: gw) rm mc ms 0 := cwV 0 hts (gw_V w3_224 w3_226 w0_40 w1_4 w3_227) rfl hrc hrs (by decide +kernel) hR
theorem k_M_149 {R : Room} {s : State} {args : Array Value} {rm : Room} {mc ms : Nat} (hts : ∀ w ∈ gw, w.before args s = true) (hR : rm.frames + 1 ≤ R.frames ∧ 8 + (2 + 11) + rm.locals ≤ R.locals) (hrc : rm.cells = mc) (hrs : rm.slots = ms) : CallW R s args "GuidePlansModel" "GuidePlansModel" 149 y_M_isTask b_M_isTask 2 (some .boolean) (.code y_M_isTask b_M_isTask 2 (some .boolean) :: gw) rm mc ms 1 := cwV 1 hts (gw_V w3_236 w3_238 w0_41 w1_4 w3_239) rfl hrc hrs (by decide +kernel) hR
theorem k_M_152 {R : Room} {s : State} {args : Array Value} {rm : Room} {mc ms : Nat} (hts : ∀ w ∈ gw, w.before args s = true) (hR : rm.frames + 1 ≤ R.frames ∧ 8 + (2 + 11) + rm.locals ≤ R.locals) (hrc : rm.cells = mc) (hrs : rm.slots = ms) : CallW R s args "GuidePlansModel" "GuidePlansModel" 152 y_M_tryPlan b_M_tryPlan 2 none (.code y_M_tryPlan b_M_tryPlan 2 none :: gw) rm mc ms 0 := cwV 0 hts (gw_V w4_4 w4_6 w0_42 w1_4 w4_7) rfl hrc hrs (by decide +kernel) hR
theorem k_M_158 {R : Room} {s : State} {args : Array Value} {rm : Room} {mc ms : Nat} (hts : ∀ w ∈ gw, w.before args s = true) (hR : rm.frames + 1 ≤ R.frames ∧ 8 + (3 + 11) + rm.locals ≤ R.locals) (hrc : rm.cells = mc) (hrs : rm.slots = ms) : CallW R s args "GuidePlansModel" "GuidePlansModel" 158 y_M_isEmptied b_M_isEmptied 3 (some .boolean) (.code y_M_isEmptied b_M_isEmptied 3 (some .boolean) :: gw) rm mc ms 2 := cwV 2 hts (gw_V w4_20 w4_22 w0_43 w1_4 w4_23) rfl hrc hrs (by decide +kernel) hR
theorem k_M_161 {R : Room} {s : State} {args : Array Value} {rm : Room} {mc ms : Nat} (hts : ∀ w ∈ gw, w.before args s = true) (hR : rm.frames + 1 ≤ R.frames ∧ 8 + (3 + 11) + rm.locals ≤ R.locals) (hrc : rm.cells = mc) (hrs : rm.slots = ms) : CallW R s args "GuidePlansModel" "GuidePlansModel" 161 y_M_isUnfit b_M_isUnfit 3 (some .boolean) (.code y_M_isUnfit b_M_isUnfit 3 (some .boolean) :: gw) rm mc ms 2 := cwV 2 hts (gw_V w4_24 w4_26 w0_44 w1_4 w4_27) rfl hrc hrs (by decide +kernel) hR
end
section
/-! ===== Day: what its methods answer ===== -/
def gp_in (x n : Int32) : Bool := !decide (x < 0) && !decide (n ≤ x)
theorem gp_in_1 {t n : Nat} (h : t < n) (hn : n < 2 ^ 31) : gp_in (nI t) (nI n) = true := by
  have h1 : ¬ nI t < 0 := nI_pos (by omega)
  have h2 : ¬ nI n ≤ nI t := nI_ge h hn
  simp [gp_in, h1, h2]
def gp_of1 (F : Nat → Nat → Int32) (p : Int32) (t s : Nat) : Bool := decide (F 1 s = p) && decide (F 2 s < F 6 t) && decide (F 5 t < F 3 s)
def gp_ofN (F : Nat → Nat → Int32) (p : Int32) (t : Nat) : Nat → Bool
  | 0 => false
  | k + 1 => gp_ofN F p t k || gp_of1 F p t k
theorem gp_ofN_up {F : Nat → Nat → Int32} {p : Int32} {t s : Nat} (h : gp_of1 F p t s = true) : ∀ k, s < k → gp_ofN F p t k = true := by
  intro k
  induction k with
  | zero => intro h; omega
  | succ k ih =>
    intro hs
    by_cases e : s = k
    · subst e; simp [gp_ofN, h]
    · simp [gp_ofN, ih (by omega)]
def gp_suit (F : Nat → Nat → Int32) (ns p t : Nat) : Bool := !decide ((F 0 p >>> (F 4 t &&& 31)) &&& 1 = 0) && !gp_ofN F (nI p) t ns
def gp_near (I : Nat → Int32) (F : Nat → Nat → Int32) (t u : Nat) : Bool := decide (F 5 t < F 6 u + I 7) && decide (F 5 u < F 6 t + I 7)
set_option maxHeartbeats 4000000 in
set_option maxRecDepth 100000 in
theorem c_D_hasPerson (l : Launch) (E : gp_E) (I : Nat → Int32) (F : Nat → Nat → Int32) (x : Int32)  : gp_CR l y_D_hasPerson b_D_hasPerson 2 (some .boolean) 1 E (gp_wG E I F) [.ref (E.2.2.2 1), .int x] (if gp_in x (I 4) then 1 else 0) := by
  refine gp_ofR (by decide) (Nat.le_of_ble_eq_true rfl) ?_
  intro xp xe xs xm below meth xc ls hx hb hr hts hown hlocks hml hP hK hl
  have hown : xs.vm.findClass "GuidePlans$Day" = some xm.cls := hown
  have hl : lv_has ls 2 [(0, .ref (E.2.2.2 1)), (1, .int x)] := hl
  refine lv_iload_n hx hb d_D_hasPerson_0 rfl (lv_at hl 1 rfl) ?_
  refine lv_if_lt (tgt := 16) hx hb d_D_hasPerson_1 (by decide) (fun c1 => ?_) (fun c1 => ?_)
  · have c1 := c1
    have mc1 : ¬ 0 ≤ x := Int32.not_le.mpr c1
    refine lv_iconst (v := 0) hx hb d_D_hasPerson_16 (by decide) ?_
    exact gp_rz hx hb hr hlocks (rfl) (by simp [gp_in, c1, mc1]) d_D_hasPerson_17
  · have c1 := c1
    have mc1 : 0 ≤ x := Int32.not_lt.mp c1
    refine lv_iload_n hx hb d_D_hasPerson_4 rfl (lv_at hl 1 rfl) ?_
    refine lv_aload_n hx hb d_D_hasPerson_5 rfl (lv_at hl 0 rfl) ?_
    refine va_get (D := E.1) (cl := gp_cl) (ci := 1) (v := .int (I 4)) (C := R_D) (T := T_D) (N := 13) hx hb hts i_D hown hK hP 1 rfl rfl 8 (by decide) (hts _ w1_39) (fun _ h9 => h9) rfl d_D_hasPerson_6 ?_
    refine lv_icmp_ge (tgt := 16) hx hb d_D_hasPerson_9 (by decide) (fun c9 => ?_) (fun c9 => ?_)
    · have c9 := c9
      have mc9 : ¬ x < (I 4) := Int32.not_lt.mpr c9
      refine lv_iconst (v := 0) hx hb d_D_hasPerson_16 (by decide) ?_
      exact gp_rz hx hb hr hlocks (rfl) (by simp [gp_in, c1, mc1, c9, mc9]) d_D_hasPerson_17
    · have c9 := c9
      have mc9 : x < (I 4) := Int32.not_le.mp c9
      refine lv_iconst (v := 1) hx hb d_D_hasPerson_12 (by decide) ?_
      refine lv_goto (tgt := 17) hx hb d_D_hasPerson_13 (by decide) ?_
      exact gp_rz hx hb hr hlocks (rfl) (by simp [gp_in, c1, mc1, c9, mc9]) d_D_hasPerson_17
theorem c_D_hasPerson1 (l : Launch) (E : gp_E) (I : Nat → Int32) (F : Nat → Nat → Int32) (n t : Nat) (hT : I 4 = nI n) (hn : n ≤ 4) (ht : t < n) : gp_CR l y_D_hasPerson b_D_hasPerson 2 (some .boolean) 1 E (gp_wG E I F) [.ref (E.2.2.2 1), .int (nI t)] 1 := by
  have h := c_D_hasPerson l E I F (nI t)
  rw [hT, gp_in_1 ht (by omega), if_pos rfl] at h
  exact h
set_option maxHeartbeats 4000000 in
set_option maxRecDepth 100000 in
theorem c_D_hasTask (l : Launch) (E : gp_E) (I : Nat → Int32) (F : Nat → Nat → Int32) (x : Int32)  : gp_CR l y_D_hasTask b_D_hasTask 2 (some .boolean) 1 E (gp_wG E I F) [.ref (E.2.2.2 1), .int x] (if gp_in x (I 6) then 1 else 0) := by
  refine gp_ofR (by decide) (Nat.le_of_ble_eq_true rfl) ?_
  intro xp xe xs xm below meth xc ls hx hb hr hts hown hlocks hml hP hK hl
  have hown : xs.vm.findClass "GuidePlans$Day" = some xm.cls := hown
  have hl : lv_has ls 2 [(0, .ref (E.2.2.2 1)), (1, .int x)] := hl
  refine lv_iload_n hx hb d_D_hasTask_0 rfl (lv_at hl 1 rfl) ?_
  refine lv_if_lt (tgt := 16) hx hb d_D_hasTask_1 (by decide) (fun c1 => ?_) (fun c1 => ?_)
  · have c1 := c1
    have mc1 : ¬ 0 ≤ x := Int32.not_le.mpr c1
    refine lv_iconst (v := 0) hx hb d_D_hasTask_16 (by decide) ?_
    exact gp_rz hx hb hr hlocks (rfl) (by simp [gp_in, c1, mc1]) d_D_hasTask_17
  · have c1 := c1
    have mc1 : 0 ≤ x := Int32.not_lt.mp c1
    refine lv_iload_n hx hb d_D_hasTask_4 rfl (lv_at hl 1 rfl) ?_
    refine lv_aload_n hx hb d_D_hasTask_5 rfl (lv_at hl 0 rfl) ?_
    refine va_get (D := E.1) (cl := gp_cl) (ci := 1) (v := .int (I 6)) (C := R_D) (T := T_D) (N := 13) hx hb hts i_D hown hK hP 1 rfl rfl 10 (by decide) (hts _ w1_44) (fun _ h9 => h9) rfl d_D_hasTask_6 ?_
    refine lv_icmp_ge (tgt := 16) hx hb d_D_hasTask_9 (by decide) (fun c9 => ?_) (fun c9 => ?_)
    · have c9 := c9
      have mc9 : ¬ x < (I 6) := Int32.not_lt.mpr c9
      refine lv_iconst (v := 0) hx hb d_D_hasTask_16 (by decide) ?_
      exact gp_rz hx hb hr hlocks (rfl) (by simp [gp_in, c1, mc1, c9, mc9]) d_D_hasTask_17
    · have c9 := c9
      have mc9 : x < (I 6) := Int32.not_le.mp c9
      refine lv_iconst (v := 1) hx hb d_D_hasTask_12 (by decide) ?_
      refine lv_goto (tgt := 17) hx hb d_D_hasTask_13 (by decide) ?_
      exact gp_rz hx hb hr hlocks (rfl) (by simp [gp_in, c1, mc1, c9, mc9]) d_D_hasTask_17
theorem c_D_hasTask1 (l : Launch) (E : gp_E) (I : Nat → Int32) (F : Nat → Nat → Int32) (n t : Nat) (hT : I 6 = nI n) (hn : n ≤ 6) (ht : t < n) : gp_CR l y_D_hasTask b_D_hasTask 2 (some .boolean) 1 E (gp_wG E I F) [.ref (E.2.2.2 1), .int (nI t)] 1 := by
  have h := c_D_hasTask l E I F (nI t)
  rw [hT, gp_in_1 ht (by omega), if_pos rfl] at h
  exact h
set_option maxHeartbeats 4000000 in
set_option maxRecDepth 100000 in
theorem c_D_lengthOf (l : Launch) (E : gp_E) (I : Nat → Int32) (F : Nat → Nat → Int32) (nt t : Nat) (hT : I 6 = nI nt) (hn : nt ≤ 6) (ht : t < nt) : gp_CR l y_D_lengthOf b_D_lengthOf 2 (some .int) 2 E (gp_wG E I F) [.ref (E.2.2.2 1), .int (nI t)] (F 6 t - F 5 t) := by
  refine gp_ofR (by decide) (Nat.le_of_ble_eq_true rfl) ?_
  intro xp xe xs xm below meth xc ls hx hb hr hts hown hlocks hml hP hK hl
  have hown : xs.vm.findClass "GuidePlans$Day" = some xm.cls := hown
  have hl : lv_has ls 2 [(0, .ref (E.2.2.2 1)), (1, .int (nI t))] := hl
  refine lv_aload_n hx hb d_D_lengthOf_0 rfl (lv_at hl 0 rfl) ?_
  refine lv_iload_n hx hb d_D_lengthOf_1 rfl (lv_at hl 1 rfl) ?_
  refine gp_cR (q0 := 1) (ci := 1) (As := [.int (nI t)]) (rest := []) ⟨hx, hb, hml, hown, hts⟩ (c_D_hasTask1 l E I F nt t hT hn ht) (k_D_53 hts ⟨by decide, by decide⟩ rfl rfl) hK hP rfl rfl rfl hl.1 rfl (by decide) d_D_lengthOf_2 ⟨by decide, by decide⟩ ?_
  refine lv_if_eq (tgt := 24) hx hb d_D_lengthOf_5 (by decide) (fun c5 => ?_) (fun c5 => ?_)
  · exact absurd c5 (by decide)
  · have c5 := c5
    have nc5 : ¬ 1 = 0 := fun h => c5 ((nI_eq (a := 1) (b := 0) (by omega) (by omega)).mpr h)
    refine lv_aload_n hx hb d_D_lengthOf_8 rfl (lv_at hl 0 rfl) ?_
    refine va_get (D := E.1) (cl := gp_cl) (ci := 1) (v := .ref (E.2.2.2 9)) (C := R_D) (T := T_D) (N := 13) hx hb hts i_D hown hK hP 1 rfl rfl 6 (by decide) (hts _ w1_35) (fun _ h9 => h9) rfl d_D_lengthOf_9 ?_
    refine lv_iload_n hx hb d_D_lengthOf_12 rfl (lv_at hl 1 rfl) ?_
    refine gp_ald (f := (F 6)) (n := 6) hx hb hK hP 9 rfl (t) rfl (by omega) (by decide) d_D_lengthOf_13 ?_
    refine lv_aload_n hx hb d_D_lengthOf_14 rfl (lv_at hl 0 rfl) ?_
    refine va_get (D := E.1) (cl := gp_cl) (ci := 1) (v := .ref (E.2.2.2 8)) (C := R_D) (T := T_D) (N := 13) hx hb hts i_D hown hK hP 1 rfl rfl 5 (by decide) (hts _ w1_32) (fun _ h9 => h9) rfl d_D_lengthOf_15 ?_
    refine lv_iload_n hx hb d_D_lengthOf_18 rfl (lv_at hl 1 rfl) ?_
    refine gp_ald (f := (F 5)) (n := 6) hx hb hK hP 8 rfl (t) rfl (by omega) (by decide) d_D_lengthOf_19 ?_
    refine lv_isub hx hb d_D_lengthOf_20 ?_
    refine lv_goto (tgt := 25) hx hb d_D_lengthOf_21 (by decide) ?_
    exact gp_ri hx hb hr hlocks (rfl) d_D_lengthOf_25
set_option maxHeartbeats 4000000 in
set_option maxRecDepth 100000 in
theorem c_D_isOffIn (l : Launch) (E : gp_E) (I : Nat → Int32) (F : Nat → Nat → Int32) (ns p t : Nat) (hN : I 5 = nI ns) (hn : ns ≤ 20) (ht : t < 6) : gp_CR l y_D_isOffIn b_D_isOffIn 4 (some .boolean) 1 E (gp_wG E I F) [.ref (E.2.2.2 1), .int (nI p), .int (nI t)] (if gp_ofN F (nI p) t ns then 1 else 0) := by
  refine gp_ofR (by decide) (Nat.le_of_ble_eq_true rfl) ?_
  intro xp xe xs xm below meth xc ls hx hb hr hts hown hlocks hml hP hK hl
  have hown : xs.vm.findClass "GuidePlans$Day" = some xm.cls := hown
  have hl : lv_has ls 4 [(0, .ref (E.2.2.2 1)), (1, .int (nI p)), (2, .int (nI t))] := hl
  refine lv_iconst (v := 0) hx hb d_D_isOffIn_0 (by decide) ?_
  refine lv_istore_n (lv' := [(3, .int 0), (0, .ref (E.2.2.2 1)), (1, .int (nI p)), (2, .int (nI t))]) hx hb d_D_isOffIn_1 rfl hl (by decide) rfl (fun ls hl => ?_)
  have L2 : ∀ (n : Nat) (s : Nat), s ≤ ns → gp_ofN F (nI p) t s = false → ns + 1 ≤ s + n → ∀ (ls : Array Slot), lv_has ls 4 [(3, .int (nI s)), (0, .ref (E.2.2.2 1)), (1, .int (nI p)), (2, .int (nI t))] → W xp l xe (gp_rm 1 0 0) xs xm ([.ref (E.2.2.2 1), .int (nI p), .int (nI t)] : List Value).toArray below meth xc xs.heap [] 0 0 (MQ below (QcRead (if gp_ofN F (nI p) t ns then 1 else 0)) ([.ref (E.2.2.2 1), .int (nI p), .int (nI t)] : List Value).toArray xs 0 0 (fun _ => False)) (F0 xm 2 ls []) := by
    intro n
    induction n with
    | zero =>
      intro s h1 h2 hm
      exact absurd hm (by omega)
    | succ n ih2 =>
      intro s h1 h2 hm ls hl
      refine lv_iload_n hx hb d_D_isOffIn_2 rfl (lv_at hl 0 rfl) ?_
      refine lv_aload_n hx hb d_D_isOffIn_3 rfl (lv_at hl 1 rfl) ?_
      refine va_get (D := E.1) (cl := gp_cl) (ci := 1) (v := .int (nI ns)) (C := R_D) (T := T_D) (N := 13) hx hb hts i_D hown hK hP 1 rfl rfl 9 (by decide) (hts _ w1_42) (fun _ h9 => h9) (congrArg (fun z => some (Value.int z)) hN) d_D_isOffIn_4 ?_
      refine lv_icmp_ge (tgt := 58) hx hb d_D_isOffIn_7 (by decide) (fun c7 => ?_) (fun c7 => ?_)
      · have c7 := c7
        have nc7 : ns ≤ s := (nI_leI (a := ns) (b := s) (by omega) (by omega)).mp c7
        refine lv_iconst (v := 0) hx hb d_D_isOffIn_58 (by decide) ?_
        exact gp_rz hx hb hr hlocks (rfl) (by rw [show ns = s by omega, h2]; rfl) d_D_isOffIn_59
      · have c7 := c7
        have nc7 : ¬ ns ≤ s := fun h => c7 ((nI_leI (a := ns) (b := s) (by omega) (by omega)).mpr h)
        refine lv_aload_n hx hb d_D_isOffIn_10 rfl (lv_at hl 1 rfl) ?_
        refine va_get (D := E.1) (cl := gp_cl) (ci := 1) (v := .ref (E.2.2.2 4)) (C := R_D) (T := T_D) (N := 13) hx hb hts i_D hown hK hP 1 rfl rfl 1 (by decide) (hts _ w1_28) (fun _ h9 => h9) rfl d_D_isOffIn_11 ?_
        refine lv_iload_n hx hb d_D_isOffIn_14 rfl (lv_at hl 0 rfl) ?_
        refine gp_ald (f := (F 1)) (n := 20) hx hb hK hP 4 rfl (s) rfl (by omega) (by decide) d_D_isOffIn_15 ?_
        refine lv_iload_n hx hb d_D_isOffIn_16 rfl (lv_at hl 2 rfl) ?_
        refine lv_icmp_ne (tgt := 52) hx hb d_D_isOffIn_17 (by decide) (fun c17 => ?_) (fun c17 => ?_)
        · have c17 := c17
          refine lv_iinc (v := (nI (s + 1))) (lv' := [(3, .int (nI (s + 1))), (0, .ref (E.2.2.2 1)), (1, .int (nI p)), (2, .int (nI t))]) hx hb d_D_isOffIn_52 hl (k := 0) rfl (nI_1 _) (by decide) rfl (fun ls hl => ?_)
          refine lv_goto (tgt := 2) hx hb d_D_isOffIn_55 (by decide) ?_
          exact ih2 (s + 1) (by omega) (by simp [gp_ofN, gp_of1, h1, h2, c7, nc7, c17]) (by omega) ls (lv_sub hl [0, 1, 2, 3] rfl)
        · have c17 := c17
          refine lv_aload_n hx hb d_D_isOffIn_20 rfl (lv_at hl 1 rfl) ?_
          refine va_get (D := E.1) (cl := gp_cl) (ci := 1) (v := .ref (E.2.2.2 5)) (C := R_D) (T := T_D) (N := 13) hx hb hts i_D hown hK hP 1 rfl rfl 2 (by decide) (hts _ w1_29) (fun _ h9 => h9) rfl d_D_isOffIn_21 ?_
          refine lv_iload_n hx hb d_D_isOffIn_24 rfl (lv_at hl 0 rfl) ?_
          refine gp_ald (f := (F 2)) (n := 20) hx hb hK hP 5 rfl (s) rfl (by omega) (by decide) d_D_isOffIn_25 ?_
          refine lv_aload_n hx hb d_D_isOffIn_26 rfl (lv_at hl 1 rfl) ?_
          refine va_get (D := E.1) (cl := gp_cl) (ci := 1) (v := .ref (E.2.2.2 9)) (C := R_D) (T := T_D) (N := 13) hx hb hts i_D hown hK hP 1 rfl rfl 6 (by decide) (hts _ w1_35) (fun _ h9 => h9) rfl d_D_isOffIn_27 ?_
          refine lv_iload_n hx hb d_D_isOffIn_30 rfl (lv_at hl 3 rfl) ?_
          refine gp_ald (f := (F 6)) (n := 6) hx hb hK hP 9 rfl (t) rfl (by omega) (by decide) d_D_isOffIn_31 ?_
          refine lv_icmp_ge (tgt := 52) hx hb d_D_isOffIn_32 (by decide) (fun c32 => ?_) (fun c32 => ?_)
          · have c32 := c32
            have mc32 : ¬ ((F 2) (s)) < ((F 6) (t)) := Int32.not_lt.mpr c32
            refine lv_iinc (v := (nI (s + 1))) (lv' := [(3, .int (nI (s + 1))), (0, .ref (E.2.2.2 1)), (1, .int (nI p)), (2, .int (nI t))]) hx hb d_D_isOffIn_52 hl (k := 0) rfl (nI_1 _) (by decide) rfl (fun ls hl => ?_)
            refine lv_goto (tgt := 2) hx hb d_D_isOffIn_55 (by decide) ?_
            exact ih2 (s + 1) (by omega) (by simp [gp_ofN, gp_of1, h1, h2, c7, nc7, c17, c32, mc32]) (by omega) ls (lv_sub hl [0, 1, 2, 3] rfl)
          · have c32 := c32
            have mc32 : ((F 2) (s)) < ((F 6) (t)) := Int32.not_le.mp c32
            refine lv_aload_n hx hb d_D_isOffIn_35 rfl (lv_at hl 1 rfl) ?_
            refine va_get (D := E.1) (cl := gp_cl) (ci := 1) (v := .ref (E.2.2.2 8)) (C := R_D) (T := T_D) (N := 13) hx hb hts i_D hown hK hP 1 rfl rfl 5 (by decide) (hts _ w1_32) (fun _ h9 => h9) rfl d_D_isOffIn_36 ?_
            refine lv_iload_n hx hb d_D_isOffIn_39 rfl (lv_at hl 3 rfl) ?_
            refine gp_ald (f := (F 5)) (n := 6) hx hb hK hP 8 rfl (t) rfl (by omega) (by decide) d_D_isOffIn_40 ?_
            refine lv_aload_n hx hb d_D_isOffIn_41 rfl (lv_at hl 1 rfl) ?_
            refine va_get (D := E.1) (cl := gp_cl) (ci := 1) (v := .ref (E.2.2.2 6)) (C := R_D) (T := T_D) (N := 13) hx hb hts i_D hown hK hP 1 rfl rfl 3 (by decide) (hts _ w1_30) (fun _ h9 => h9) rfl d_D_isOffIn_42 ?_
            refine lv_iload_n hx hb d_D_isOffIn_45 rfl (lv_at hl 0 rfl) ?_
            refine gp_ald (f := (F 3)) (n := 20) hx hb hK hP 6 rfl (s) rfl (by omega) (by decide) d_D_isOffIn_46 ?_
            refine lv_icmp_ge (tgt := 52) hx hb d_D_isOffIn_47 (by decide) (fun c47 => ?_) (fun c47 => ?_)
            · have c47 := c47
              have mc47 : ¬ ((F 5) (t)) < ((F 3) (s)) := Int32.not_lt.mpr c47
              refine lv_iinc (v := (nI (s + 1))) (lv' := [(3, .int (nI (s + 1))), (0, .ref (E.2.2.2 1)), (1, .int (nI p)), (2, .int (nI t))]) hx hb d_D_isOffIn_52 hl (k := 0) rfl (nI_1 _) (by decide) rfl (fun ls hl => ?_)
              refine lv_goto (tgt := 2) hx hb d_D_isOffIn_55 (by decide) ?_
              exact ih2 (s + 1) (by omega) (by simp [gp_ofN, gp_of1, h1, h2, c7, nc7, c17, c32, mc32, c47, mc47]) (by omega) ls (lv_sub hl [0, 1, 2, 3] rfl)
            · have c47 := c47
              have mc47 : ((F 5) (t)) < ((F 3) (s)) := Int32.not_le.mp c47
              refine lv_iconst (v := 1) hx hb d_D_isOffIn_50 (by decide) ?_
              exact gp_rz hx hb hr hlocks (rfl) (by rw [gp_ofN_up (s := s) (by simp [gp_of1, h1, h2, c7, nc7, c17, c32, mc32, c47, mc47]) ns (by omega)]; rfl) d_D_isOffIn_51
  exact L2 (ns + 1) 0 (Nat.zero_le _) rfl (by omega) ls (lv_sub hl [0, 1, 2, 3] rfl)
set_option maxHeartbeats 4000000 in
set_option maxRecDepth 100000 in
theorem c_D_suits (l : Launch) (E : gp_E) (I : Nat → Int32) (F : Nat → Nat → Int32) (np nt ns p t : Nat) (hp4 : I 4 = nI np) (hT : I 6 = nI nt) (hN : I 5 = nI ns) (hnp : np ≤ 4) (hnt : nt ≤ 6) (hns : ns ≤ 20) (hp : p < np) (ht : t < nt) : gp_CR l y_D_suits b_D_suits 3 (some .boolean) 2 E (gp_wG E I F) [.ref (E.2.2.2 1), .int (nI p), .int (nI t)] (if gp_suit F ns p t then 1 else 0) := by
  refine gp_ofR (by decide) (Nat.le_of_ble_eq_true rfl) ?_
  intro xp xe xs xm below meth xc ls hx hb hr hts hown hlocks hml hP hK hl
  have hown : xs.vm.findClass "GuidePlans$Day" = some xm.cls := hown
  have hl : lv_has ls 3 [(0, .ref (E.2.2.2 1)), (1, .int (nI p)), (2, .int (nI t))] := hl
  refine lv_aload_n hx hb d_D_suits_0 rfl (lv_at hl 0 rfl) ?_
  refine lv_iload_n hx hb d_D_suits_1 rfl (lv_at hl 1 rfl) ?_
  refine gp_cR (q0 := 1) (ci := 1) (As := [.int (nI p)]) (rest := []) ⟨hx, hb, hml, hown, hts⟩ (c_D_hasPerson1 l E I F np p hp4 hnp hp) (k_D_57 hts ⟨by decide, by decide⟩ rfl rfl) hK hP rfl rfl rfl hl.1 rfl (by decide) d_D_suits_2 ⟨by decide, by decide⟩ ?_
  refine lv_if_eq (tgt := 16) hx hb d_D_suits_5 (by decide) (fun c5 => ?_) (fun c5 => ?_)
  · exact absurd c5 (by decide)
  · have c5 := c5
    have nc5 : ¬ 1 = 0 := fun h => c5 ((nI_eq (a := 1) (b := 0) (by omega) (by omega)).mpr h)
    refine lv_aload_n hx hb d_D_suits_8 rfl (lv_at hl 0 rfl) ?_
    refine lv_iload_n hx hb d_D_suits_9 rfl (lv_at hl 2 rfl) ?_
    refine gp_cR (q0 := 1) (ci := 1) (As := [.int (nI t)]) (rest := []) ⟨hx, hb, hml, hown, hts⟩ (c_D_hasTask1 l E I F nt t hT hnt ht) (k_D_53 hts ⟨by decide, by decide⟩ rfl rfl) hK hP rfl rfl rfl hl.1 rfl (by decide) d_D_suits_10 ⟨by decide, by decide⟩ ?_
    refine lv_if_ne (tgt := 18) hx hb d_D_suits_13 (by decide) (fun c13 => ?_) (fun c13 => ?_)
    · have c13 := c13
      have nc13 : ¬ 1 = 0 := fun h => c13 ((nI_eq (a := 1) (b := 0) (by omega) (by omega)).mpr h)
      refine lv_aload_n hx hb d_D_suits_18 rfl (lv_at hl 0 rfl) ?_
      refine va_get (D := E.1) (cl := gp_cl) (ci := 1) (v := .ref (E.2.2.2 3)) (C := R_D) (T := T_D) (N := 13) hx hb hts i_D hown hK hP 1 rfl rfl 0 (by decide) (hts _ w1_27) (fun _ h9 => h9) rfl d_D_suits_19 ?_
      refine lv_iload_n hx hb d_D_suits_22 rfl (lv_at hl 1 rfl) ?_
      refine gp_ald (f := (F 0)) (n := 4) hx hb hK hP 3 rfl (p) rfl (by omega) (by decide) d_D_suits_23 ?_
      refine lv_aload_n hx hb d_D_suits_24 rfl (lv_at hl 0 rfl) ?_
      refine va_get (D := E.1) (cl := gp_cl) (ci := 1) (v := .ref (E.2.2.2 7)) (C := R_D) (T := T_D) (N := 13) hx hb hts i_D hown hK hP 1 rfl rfl 4 (by decide) (hts _ w1_31) (fun _ h9 => h9) rfl d_D_suits_25 ?_
      refine lv_iload_n hx hb d_D_suits_28 rfl (lv_at hl 2 rfl) ?_
      refine gp_ald (f := (F 4)) (n := 6) hx hb hK hP 7 rfl (t) rfl (by omega) (by decide) d_D_suits_29 ?_
      refine lv_ishr hx hb d_D_suits_30 ?_
      refine lv_iconst (v := 1) hx hb d_D_suits_31 (by decide) ?_
      refine lv_iand hx hb d_D_suits_32 ?_
      refine lv_if_eq (tgt := 49) hx hb d_D_suits_33 (by decide) (fun c33 => ?_) (fun c33 => ?_)
      · have c33 := c33
        refine lv_iconst (v := 0) hx hb d_D_suits_49 (by decide) ?_
        exact gp_rz hx hb hr hlocks (rfl) (by simp [gp_suit, c5, nc5, c13, nc13, c33]) d_D_suits_50
      · have c33 := c33
        refine lv_aload_n hx hb d_D_suits_36 rfl (lv_at hl 0 rfl) ?_
        refine lv_iload_n hx hb d_D_suits_37 rfl (lv_at hl 1 rfl) ?_
        refine lv_iload_n hx hb d_D_suits_38 rfl (lv_at hl 2 rfl) ?_
        refine gp_cR (q0 := 1) (ci := 1) (As := [.int (nI p), .int (nI t)]) (rest := []) ⟨hx, hb, hml, hown, hts⟩ (c_D_isOffIn l E I F ns p t hN hns (by omega)) (k_D_60 hts ⟨by decide, by decide⟩ rfl rfl) hK hP rfl rfl rfl hl.1 rfl (by decide) d_D_suits_39 ⟨by decide, by decide⟩ ?_
        by_cases hs39 : gp_ofN F (nI p) t ns = true
        · rw [if_pos hs39]
          refine lv_if_ne (tgt := 49) hx hb d_D_suits_42 (by decide) (fun c42 => ?_) (fun c42 => ?_)
          · have c42 := c42
            have nc42 : ¬ 1 = 0 := fun h => c42 ((nI_eq (a := 1) (b := 0) (by omega) (by omega)).mpr h)
            refine lv_iconst (v := 0) hx hb d_D_suits_49 (by decide) ?_
            exact gp_rz hx hb hr hlocks (rfl) (by simp [gp_suit, c5, nc5, c13, nc13, c33, hs39, c42, nc42]) d_D_suits_50
          · exact absurd c42 (by decide)
        · rw [if_neg hs39]
          refine lv_if_ne (tgt := 49) hx hb d_D_suits_42 (by decide) (fun c42 => ?_) (fun c42 => ?_)
          · exact absurd c42 (by decide)
          · have c42 := c42
            have nc42 : 0 = 0 := (nI_eq (a := 0) (b := 0) (by omega) (by omega)).mp c42
            refine lv_iconst (v := 1) hx hb d_D_suits_45 (by decide) ?_
            refine lv_goto (tgt := 50) hx hb d_D_suits_46 (by decide) ?_
            exact gp_rz hx hb hr hlocks (rfl) (by simp [gp_suit, c5, nc5, c13, nc13, c33, hs39, c42, nc42]) d_D_suits_50
    · exact absurd c13 (by decide)
set_option maxHeartbeats 4000000 in
set_option maxRecDepth 100000 in
theorem c_D_areTooNear (l : Launch) (E : gp_E) (I : Nat → Int32) (F : Nat → Nat → Int32) (nt t u : Nat) (hT : I 6 = nI nt) (hnt : nt ≤ 6) (ht : t < nt) (hu : u < nt) : gp_CR l y_D_areTooNear b_D_areTooNear 3 (some .boolean) 2 E (gp_wG E I F) [.ref (E.2.2.2 1), .int (nI t), .int (nI u)] (if gp_near I F t u then 1 else 0) := by
  refine gp_ofR (by decide) (Nat.le_of_ble_eq_true rfl) ?_
  intro xp xe xs xm below meth xc ls hx hb hr hts hown hlocks hml hP hK hl
  have hown : xs.vm.findClass "GuidePlans$Day" = some xm.cls := hown
  have hl : lv_has ls 3 [(0, .ref (E.2.2.2 1)), (1, .int (nI t)), (2, .int (nI u))] := hl
  refine lv_aload_n hx hb d_D_areTooNear_0 rfl (lv_at hl 0 rfl) ?_
  refine lv_iload_n hx hb d_D_areTooNear_1 rfl (lv_at hl 1 rfl) ?_
  refine gp_cR (q0 := 1) (ci := 1) (As := [.int (nI t)]) (rest := []) ⟨hx, hb, hml, hown, hts⟩ (c_D_hasTask1 l E I F nt t hT hnt ht) (k_D_53 hts ⟨by decide, by decide⟩ rfl rfl) hK hP rfl rfl rfl hl.1 rfl (by decide) d_D_areTooNear_2 ⟨by decide, by decide⟩ ?_
  refine lv_if_eq (tgt := 16) hx hb d_D_areTooNear_5 (by decide) (fun c5 => ?_) (fun c5 => ?_)
  · exact absurd c5 (by decide)
  · have c5 := c5
    have nc5 : ¬ 1 = 0 := fun h => c5 ((nI_eq (a := 1) (b := 0) (by omega) (by omega)).mpr h)
    refine lv_aload_n hx hb d_D_areTooNear_8 rfl (lv_at hl 0 rfl) ?_
    refine lv_iload_n hx hb d_D_areTooNear_9 rfl (lv_at hl 2 rfl) ?_
    refine gp_cR (q0 := 1) (ci := 1) (As := [.int (nI u)]) (rest := []) ⟨hx, hb, hml, hown, hts⟩ (c_D_hasTask1 l E I F nt u hT hnt hu) (k_D_53 hts ⟨by decide, by decide⟩ rfl rfl) hK hP rfl rfl rfl hl.1 rfl (by decide) d_D_areTooNear_10 ⟨by decide, by decide⟩ ?_
    refine lv_if_ne (tgt := 18) hx hb d_D_areTooNear_13 (by decide) (fun c13 => ?_) (fun c13 => ?_)
    · have c13 := c13
      have nc13 : ¬ 1 = 0 := fun h => c13 ((nI_eq (a := 1) (b := 0) (by omega) (by omega)).mpr h)
      refine lv_aload_n hx hb d_D_areTooNear_18 rfl (lv_at hl 0 rfl) ?_
      refine va_get (D := E.1) (cl := gp_cl) (ci := 1) (v := .ref (E.2.2.2 8)) (C := R_D) (T := T_D) (N := 13) hx hb hts i_D hown hK hP 1 rfl rfl 5 (by decide) (hts _ w1_32) (fun _ h9 => h9) rfl d_D_areTooNear_19 ?_
      refine lv_iload_n hx hb d_D_areTooNear_22 rfl (lv_at hl 1 rfl) ?_
      refine gp_ald (f := (F 5)) (n := 6) hx hb hK hP 8 rfl (t) rfl (by omega) (by decide) d_D_areTooNear_23 ?_
      refine lv_aload_n hx hb d_D_areTooNear_24 rfl (lv_at hl 0 rfl) ?_
      refine va_get (D := E.1) (cl := gp_cl) (ci := 1) (v := .ref (E.2.2.2 9)) (C := R_D) (T := T_D) (N := 13) hx hb hts i_D hown hK hP 1 rfl rfl 6 (by decide) (hts _ w1_35) (fun _ h9 => h9) rfl d_D_areTooNear_25 ?_
      refine lv_iload_n hx hb d_D_areTooNear_28 rfl (lv_at hl 2 rfl) ?_
      refine gp_ald (f := (F 6)) (n := 6) hx hb hK hP 9 rfl (u) rfl (by omega) (by decide) d_D_areTooNear_29 ?_
      refine lv_aload_n hx hb d_D_areTooNear_30 rfl (lv_at hl 0 rfl) ?_
      refine va_get (D := E.1) (cl := gp_cl) (ci := 1) (v := .int (I 7)) (C := R_D) (T := T_D) (N := 13) hx hb hts i_D hown hK hP 1 rfl rfl 11 (by decide) (hts _ w1_47) (fun _ h9 => h9) rfl d_D_areTooNear_31 ?_
      refine lv_iadd hx hb d_D_areTooNear_34 ?_
      refine lv_icmp_ge (tgt := 62) hx hb d_D_areTooNear_35 (by decide) (fun c35 => ?_) (fun c35 => ?_)
      · have c35 := c35
        have mc35 : ¬ ((F 5) (t)) < (((F 6) (u)) + (I 7)) := Int32.not_lt.mpr c35
        refine lv_iconst (v := 0) hx hb d_D_areTooNear_62 (by decide) ?_
        exact gp_rz hx hb hr hlocks (rfl) (by simp [gp_near, c5, nc5, c13, nc13, c35, mc35]) d_D_areTooNear_63
      · have c35 := c35
        have mc35 : ((F 5) (t)) < (((F 6) (u)) + (I 7)) := Int32.not_le.mp c35
        refine lv_aload_n hx hb d_D_areTooNear_38 rfl (lv_at hl 0 rfl) ?_
        refine va_get (D := E.1) (cl := gp_cl) (ci := 1) (v := .ref (E.2.2.2 8)) (C := R_D) (T := T_D) (N := 13) hx hb hts i_D hown hK hP 1 rfl rfl 5 (by decide) (hts _ w1_32) (fun _ h9 => h9) rfl d_D_areTooNear_39 ?_
        refine lv_iload_n hx hb d_D_areTooNear_42 rfl (lv_at hl 2 rfl) ?_
        refine gp_ald (f := (F 5)) (n := 6) hx hb hK hP 8 rfl (u) rfl (by omega) (by decide) d_D_areTooNear_43 ?_
        refine lv_aload_n hx hb d_D_areTooNear_44 rfl (lv_at hl 0 rfl) ?_
        refine va_get (D := E.1) (cl := gp_cl) (ci := 1) (v := .ref (E.2.2.2 9)) (C := R_D) (T := T_D) (N := 13) hx hb hts i_D hown hK hP 1 rfl rfl 6 (by decide) (hts _ w1_35) (fun _ h9 => h9) rfl d_D_areTooNear_45 ?_
        refine lv_iload_n hx hb d_D_areTooNear_48 rfl (lv_at hl 1 rfl) ?_
        refine gp_ald (f := (F 6)) (n := 6) hx hb hK hP 9 rfl (t) rfl (by omega) (by decide) d_D_areTooNear_49 ?_
        refine lv_aload_n hx hb d_D_areTooNear_50 rfl (lv_at hl 0 rfl) ?_
        refine va_get (D := E.1) (cl := gp_cl) (ci := 1) (v := .int (I 7)) (C := R_D) (T := T_D) (N := 13) hx hb hts i_D hown hK hP 1 rfl rfl 11 (by decide) (hts _ w1_47) (fun _ h9 => h9) rfl d_D_areTooNear_51 ?_
        refine lv_iadd hx hb d_D_areTooNear_54 ?_
        refine lv_icmp_ge (tgt := 62) hx hb d_D_areTooNear_55 (by decide) (fun c55 => ?_) (fun c55 => ?_)
        · have c55 := c55
          have mc55 : ¬ ((F 5) (u)) < (((F 6) (t)) + (I 7)) := Int32.not_lt.mpr c55
          refine lv_iconst (v := 0) hx hb d_D_areTooNear_62 (by decide) ?_
          exact gp_rz hx hb hr hlocks (rfl) (by simp [gp_near, c5, nc5, c13, nc13, c35, mc35, c55, mc55]) d_D_areTooNear_63
        · have c55 := c55
          have mc55 : ((F 5) (u)) < (((F 6) (t)) + (I 7)) := Int32.not_le.mp c55
          refine lv_iconst (v := 1) hx hb d_D_areTooNear_58 (by decide) ?_
          refine lv_goto (tgt := 63) hx hb d_D_areTooNear_59 (by decide) ?_
          exact gp_rz hx hb hr hlocks (rfl) (by simp [gp_near, c5, nc5, c13, nc13, c35, mc35, c55, mc55]) d_D_areTooNear_63
    · exact absurd c13 (by decide)
end
section
set_option maxHeartbeats 4000000 in
set_option maxRecDepth 100000 in
theorem c_D_addPerson (l : Launch) (E : gp_E) (I : Nat → Int32) (F : Nat → Nat → Int32) (np : Nat) (x : Int32) (hp4 : I 4 = nI np) (hnp : np < 4) : gp_CW l y_D_addPerson b_D_addPerson 2 (some .int) 1 E (gp_wG E I F) (gp_wG E (upd I 4 (nI (np + 1))) (gp_uF F 0 (upd (F 0) np x))) [.ref (E.2.2.2 1), .int x] (some (.int (nI np))) := by
  refine gp_ofW (by decide) (Nat.le_of_ble_eq_true rfl) ?_
  intro xp xe xs xm below meth xc ls A hx hb hr hts hown hlocks hml hP hK hD hA hAe hl
  have hS : va_S A xs.heap xs.heap [] := va_S.rf
  have hown : xs.vm.findClass "GuidePlans$Day" = some xm.cls := hown
  have hl : lv_has ls 2 [(0, .ref (E.2.2.2 1)), (1, .int x)] := hl
  refine lv_aload_n hx hb d_D_addPerson_0 rfl (lv_at hl 0 rfl) ?_
  refine va_get (D := E.1) (cl := gp_cl) (ci := 1) (v := .int (nI np)) (C := R_D) (T := T_D) (N := 13) hx hb hts i_D hown hK hP 1 rfl rfl 8 (by decide) (hts _ w1_39) (fun _ h9 => h9) (congrArg (fun z => some (Value.int z)) hp4) d_D_addPerson_1 ?_
  refine lv_iconst (v := 4) hx hb d_D_addPerson_4 (by decide) ?_
  refine lv_icmp_lt (tgt := 10) hx hb d_D_addPerson_5 (by decide) (fun c5 => ?_) (fun c5 => ?_)
  · have c5 := c5
    have nc5 : np < 4 := (nI_ltI (a := np) (b := 4) (by omega) (by omega)).mp c5
    refine lv_aload_n hx hb d_D_addPerson_10 rfl (lv_at hl 0 rfl) ?_
    refine va_get (D := E.1) (cl := gp_cl) (ci := 1) (v := .ref (E.2.2.2 3)) (C := R_D) (T := T_D) (N := 13) hx hb hts i_D hown hK hP 1 rfl rfl 0 (by decide) (hts _ w1_27) (fun _ h9 => h9) rfl d_D_addPerson_11 ?_
    refine lv_aload_n hx hb d_D_addPerson_14 rfl (lv_at hl 0 rfl) ?_
    refine va_get (D := E.1) (cl := gp_cl) (ci := 1) (v := .int (nI np)) (C := R_D) (T := T_D) (N := 13) hx hb hts i_D hown hK hP 1 rfl rfl 8 (by decide) (hts _ w1_39) (fun _ h9 => h9) (congrArg (fun z => some (Value.int z)) hp4) d_D_addPerson_15 ?_
    refine lv_iload_n hx hb d_D_addPerson_18 rfl (lv_at hl 1 rfl) ?_
    refine gp_ast (f := (F 0)) (n := 4) hx hb hK hP hD hS 3 rfl (np) rfl (by omega) (by decide) d_D_addPerson_19 (fun H locs hP hD hS => ?_)
    have hP : va_P E.1 gp_cl (gp_wG E I (gp_uF F 0 (upd (F 0) (np) x))) H := hP
    have hD : va_D A (gp_wG E I (gp_uF F 0 (upd (F 0) (np) x))) := hD
    refine lv_aload_n hx hb d_D_addPerson_20 rfl (lv_at hl 0 rfl) ?_
    refine lv_dup hx hb d_D_addPerson_21 rfl ?_
    refine va_get (D := E.1) (cl := gp_cl) (ci := 1) (v := .int (nI np)) (C := R_D) (T := T_D) (N := 13) hx hb hts i_D hown hK hP 1 rfl rfl 8 (by decide) (hts _ w1_39) (fun _ h9 => h9) (congrArg (fun z => some (Value.int z)) hp4) d_D_addPerson_22 ?_
    refine lv_iconst (v := 1) hx hb d_D_addPerson_25 (by decide) ?_
    refine lv_iadd hx hb d_D_addPerson_26 ?_
    rw [show ((nI np) + 1) = (nI (np + 1)) from nI_1 _]
    refine va_put (D := E.1) (cl := gp_cl) (ci := 1) (v := .int (nI (np + 1))) (ty := .int) (C := R_D) (T := T_D) (N := 13) hx hb hts i_D t_D t_D_ok n_D hown hK hP hD hS 1 rfl rfl 8 (by decide) (hts _ w1_39) (fun _ h9 => h9) rfl (by decide +kernel) rfl rfl (Nat.le_of_ble_eq_true rfl) d_D_addPerson_27 (fun H locs hP hD hS => ?_)
    have hP : va_P E.1 gp_cl (gp_wG E (upd I 4 (nI (np + 1))) (gp_uF F 0 (upd (F 0) (np) x))) H := hP
    have hD : va_D A (gp_wG E (upd I 4 (nI (np + 1))) (gp_uF F 0 (upd (F 0) (np) x))) := hD
    refine lv_aload_n hx hb d_D_addPerson_30 rfl (lv_at hl 0 rfl) ?_
    refine va_get (D := E.1) (cl := gp_cl) (ci := 1) (v := .int (nI (np + 1))) (C := R_D) (T := T_D) (N := 13) hx hb hts i_D hown hK hP 1 rfl rfl 8 (by decide) (hts _ w1_39) (fun _ h9 => h9) rfl d_D_addPerson_31 ?_
    refine lv_iconst (v := 1) hx hb d_D_addPerson_34 (by decide) ?_
    refine lv_isub hx hb d_D_addPerson_35 ?_
    rw [show ((nI (np + 1)) - 1) = (nI np) from nI_pred _]
    exact gp_wi hx hb hr hlocks hAe (rfl) (hP) hS d_D_addPerson_36
  · have c5 := c5
    have nc5 : ¬ np < 4 := fun h => c5 ((nI_ltI (a := np) (b := 4) (by omega) (by omega)).mpr h)
    exact False.elim (by omega)
set_option maxHeartbeats 4000000 in
set_option maxRecDepth 100000 in
theorem c_D_addSpan (l : Launch) (E : gp_E) (I : Nat → Int32) (F : Nat → Nat → Int32) (ns : Nat) (x y z : Int32) (hN : I 5 = nI ns) (hns : ns < 20) : gp_CW l y_D_addSpan b_D_addSpan 4 none 1 E (gp_wG E I F) (gp_wG E (upd I 5 (nI (ns + 1))) (gp_uF (gp_uF (gp_uF F 1 (upd (F 1) ns x)) 2 (upd (F 2) ns y)) 3 (upd (F 3) ns z))) [.ref (E.2.2.2 1), .int x, .int y, .int z] none := by
  refine gp_ofW (by decide) (Nat.le_of_ble_eq_true rfl) ?_
  intro xp xe xs xm below meth xc ls A hx hb hr hts hown hlocks hml hP hK hD hA hAe hl
  have hS : va_S A xs.heap xs.heap [] := va_S.rf
  have hown : xs.vm.findClass "GuidePlans$Day" = some xm.cls := hown
  have hl : lv_has ls 4 [(0, .ref (E.2.2.2 1)), (1, .int x), (2, .int y), (3, .int z)] := hl
  refine lv_aload_n hx hb d_D_addSpan_0 rfl (lv_at hl 0 rfl) ?_
  refine va_get (D := E.1) (cl := gp_cl) (ci := 1) (v := .int (nI ns)) (C := R_D) (T := T_D) (N := 13) hx hb hts i_D hown hK hP 1 rfl rfl 9 (by decide) (hts _ w1_42) (fun _ h9 => h9) (congrArg (fun z => some (Value.int z)) hN) d_D_addSpan_1 ?_
  refine lv_bipush (v := 20) hx hb d_D_addSpan_4 (by decide) ?_
  refine lv_icmp_lt (tgt := 10) hx hb d_D_addSpan_6 (by decide) (fun c6 => ?_) (fun c6 => ?_)
  · have c6 := c6
    have nc6 : ns < 20 := (nI_ltI (a := ns) (b := 20) (by omega) (by omega)).mp c6
    refine lv_aload_n hx hb d_D_addSpan_10 rfl (lv_at hl 0 rfl) ?_
    refine va_get (D := E.1) (cl := gp_cl) (ci := 1) (v := .ref (E.2.2.2 4)) (C := R_D) (T := T_D) (N := 13) hx hb hts i_D hown hK hP 1 rfl rfl 1 (by decide) (hts _ w1_28) (fun _ h9 => h9) rfl d_D_addSpan_11 ?_
    refine lv_aload_n hx hb d_D_addSpan_14 rfl (lv_at hl 0 rfl) ?_
    refine va_get (D := E.1) (cl := gp_cl) (ci := 1) (v := .int (nI ns)) (C := R_D) (T := T_D) (N := 13) hx hb hts i_D hown hK hP 1 rfl rfl 9 (by decide) (hts _ w1_42) (fun _ h9 => h9) (congrArg (fun z => some (Value.int z)) hN) d_D_addSpan_15 ?_
    refine lv_iload_n hx hb d_D_addSpan_18 rfl (lv_at hl 1 rfl) ?_
    refine gp_ast (f := (F 1)) (n := 20) hx hb hK hP hD hS 4 rfl (ns) rfl (by omega) (by decide) d_D_addSpan_19 (fun H locs hP hD hS => ?_)
    have hP : va_P E.1 gp_cl (gp_wG E I (gp_uF F 1 (upd (F 1) (ns) x))) H := hP
    have hD : va_D A (gp_wG E I (gp_uF F 1 (upd (F 1) (ns) x))) := hD
    refine lv_aload_n hx hb d_D_addSpan_20 rfl (lv_at hl 0 rfl) ?_
    refine va_get (D := E.1) (cl := gp_cl) (ci := 1) (v := .ref (E.2.2.2 5)) (C := R_D) (T := T_D) (N := 13) hx hb hts i_D hown hK hP 1 rfl rfl 2 (by decide) (hts _ w1_29) (fun _ h9 => h9) rfl d_D_addSpan_21 ?_
    refine lv_aload_n hx hb d_D_addSpan_24 rfl (lv_at hl 0 rfl) ?_
    refine va_get (D := E.1) (cl := gp_cl) (ci := 1) (v := .int (nI ns)) (C := R_D) (T := T_D) (N := 13) hx hb hts i_D hown hK hP 1 rfl rfl 9 (by decide) (hts _ w1_42) (fun _ h9 => h9) (congrArg (fun z => some (Value.int z)) hN) d_D_addSpan_25 ?_
    refine lv_iload_n hx hb d_D_addSpan_28 rfl (lv_at hl 2 rfl) ?_
    refine gp_ast (f := (F 2)) (n := 20) hx hb hK hP hD hS 5 rfl (ns) rfl (by omega) (by decide) d_D_addSpan_29 (fun H locs hP hD hS => ?_)
    have hP : va_P E.1 gp_cl (gp_wG E I (gp_uF (gp_uF F 1 (upd (F 1) (ns) x)) 2 (upd (F 2) (ns) y))) H := hP
    have hD : va_D A (gp_wG E I (gp_uF (gp_uF F 1 (upd (F 1) (ns) x)) 2 (upd (F 2) (ns) y))) := hD
    refine lv_aload_n hx hb d_D_addSpan_30 rfl (lv_at hl 0 rfl) ?_
    refine va_get (D := E.1) (cl := gp_cl) (ci := 1) (v := .ref (E.2.2.2 6)) (C := R_D) (T := T_D) (N := 13) hx hb hts i_D hown hK hP 1 rfl rfl 3 (by decide) (hts _ w1_30) (fun _ h9 => h9) rfl d_D_addSpan_31 ?_
    refine lv_aload_n hx hb d_D_addSpan_34 rfl (lv_at hl 0 rfl) ?_
    refine va_get (D := E.1) (cl := gp_cl) (ci := 1) (v := .int (nI ns)) (C := R_D) (T := T_D) (N := 13) hx hb hts i_D hown hK hP 1 rfl rfl 9 (by decide) (hts _ w1_42) (fun _ h9 => h9) (congrArg (fun z => some (Value.int z)) hN) d_D_addSpan_35 ?_
    refine lv_iload_n hx hb d_D_addSpan_38 rfl (lv_at hl 3 rfl) ?_
    refine gp_ast (f := (F 3)) (n := 20) hx hb hK hP hD hS 6 rfl (ns) rfl (by omega) (by decide) d_D_addSpan_39 (fun H locs hP hD hS => ?_)
    have hP : va_P E.1 gp_cl (gp_wG E I (gp_uF (gp_uF (gp_uF F 1 (upd (F 1) (ns) x)) 2 (upd (F 2) (ns) y)) 3 (upd (F 3) (ns) z))) H := hP
    have hD : va_D A (gp_wG E I (gp_uF (gp_uF (gp_uF F 1 (upd (F 1) (ns) x)) 2 (upd (F 2) (ns) y)) 3 (upd (F 3) (ns) z))) := hD
    refine lv_aload_n hx hb d_D_addSpan_40 rfl (lv_at hl 0 rfl) ?_
    refine lv_dup hx hb d_D_addSpan_41 rfl ?_
    refine va_get (D := E.1) (cl := gp_cl) (ci := 1) (v := .int (nI ns)) (C := R_D) (T := T_D) (N := 13) hx hb hts i_D hown hK hP 1 rfl rfl 9 (by decide) (hts _ w1_42) (fun _ h9 => h9) (congrArg (fun z => some (Value.int z)) hN) d_D_addSpan_42 ?_
    refine lv_iconst (v := 1) hx hb d_D_addSpan_45 (by decide) ?_
    refine lv_iadd hx hb d_D_addSpan_46 ?_
    rw [show ((nI ns) + 1) = (nI (ns + 1)) from nI_1 _]
    refine va_put (D := E.1) (cl := gp_cl) (ci := 1) (v := .int (nI (ns + 1))) (ty := .int) (C := R_D) (T := T_D) (N := 13) hx hb hts i_D t_D t_D_ok n_D hown hK hP hD hS 1 rfl rfl 9 (by decide) (hts _ w1_42) (fun _ h9 => h9) rfl (by decide +kernel) rfl rfl (Nat.le_of_ble_eq_true rfl) d_D_addSpan_47 (fun H locs hP hD hS => ?_)
    have hP : va_P E.1 gp_cl (gp_wG E (upd I 5 (nI (ns + 1))) (gp_uF (gp_uF (gp_uF F 1 (upd (F 1) (ns) x)) 2 (upd (F 2) (ns) y)) 3 (upd (F 3) (ns) z))) H := hP
    have hD : va_D A (gp_wG E (upd I 5 (nI (ns + 1))) (gp_uF (gp_uF (gp_uF F 1 (upd (F 1) (ns) x)) 2 (upd (F 2) (ns) y)) 3 (upd (F 3) (ns) z))) := hD
    exact gp_wv hx hb hr hlocks hAe rfl (hP) hS d_D_addSpan_50
  · have c6 := c6
    have nc6 : ¬ ns < 20 := fun h => c6 ((nI_ltI (a := ns) (b := 20) (by omega) (by omega)).mpr h)
    exact False.elim (by omega)
set_option maxHeartbeats 4000000 in
set_option maxRecDepth 100000 in
theorem c_D_dropLatestSpan (l : Launch) (E : gp_E) (I : Nat → Int32) (F : Nat → Nat → Int32) (ns : Nat) (hN : I 5 = nI (ns + 1)) (hns : ns < 20) : gp_CW l y_D_dropLatestSpan b_D_dropLatestSpan 1 none 1 E (gp_wG E I F) (gp_wG E (upd I 5 (nI ns)) F) [.ref (E.2.2.2 1)] none := by
  refine gp_ofW (by decide) (Nat.le_of_ble_eq_true rfl) ?_
  intro xp xe xs xm below meth xc ls A hx hb hr hts hown hlocks hml hP hK hD hA hAe hl
  have hS : va_S A xs.heap xs.heap [] := va_S.rf
  have hown : xs.vm.findClass "GuidePlans$Day" = some xm.cls := hown
  have hl : lv_has ls 1 [(0, .ref (E.2.2.2 1))] := hl
  refine lv_aload_n hx hb d_D_dropLatestSpan_0 rfl (lv_at hl 0 rfl) ?_
  refine va_get (D := E.1) (cl := gp_cl) (ci := 1) (v := .int (nI (ns + 1))) (C := R_D) (T := T_D) (N := 13) hx hb hts i_D hown hK hP 1 rfl rfl 9 (by decide) (hts _ w1_42) (fun _ h9 => h9) (congrArg (fun z => some (Value.int z)) hN) d_D_dropLatestSpan_1 ?_
  refine lv_if_le (tgt := 17) hx hb d_D_dropLatestSpan_4 (by decide) (fun c4 => ?_) (fun c4 => ?_)
  · have c4 := c4
    have nc4 : (ns + 1) ≤ 0 := (nI_leI (a := (ns + 1)) (b := 0) (by omega) (by omega)).mp c4
    exact False.elim (by omega)
  · have c4 := c4
    have nc4 : ¬ (ns + 1) ≤ 0 := fun h => c4 ((nI_leI (a := (ns + 1)) (b := 0) (by omega) (by omega)).mpr h)
    refine lv_aload_n hx hb d_D_dropLatestSpan_7 rfl (lv_at hl 0 rfl) ?_
    refine lv_dup hx hb d_D_dropLatestSpan_8 rfl ?_
    refine va_get (D := E.1) (cl := gp_cl) (ci := 1) (v := .int (nI (ns + 1))) (C := R_D) (T := T_D) (N := 13) hx hb hts i_D hown hK hP 1 rfl rfl 9 (by decide) (hts _ w1_42) (fun _ h9 => h9) (congrArg (fun z => some (Value.int z)) hN) d_D_dropLatestSpan_9 ?_
    refine lv_iconst (v := 1) hx hb d_D_dropLatestSpan_12 (by decide) ?_
    refine lv_isub hx hb d_D_dropLatestSpan_13 ?_
    rw [show ((nI (ns + 1)) - 1) = (nI ns) from nI_pred _]
    refine va_put (D := E.1) (cl := gp_cl) (ci := 1) (v := .int (nI ns)) (ty := .int) (C := R_D) (T := T_D) (N := 13) hx hb hts i_D t_D t_D_ok n_D hown hK hP hD hS 1 rfl rfl 9 (by decide) (hts _ w1_42) (fun _ h9 => h9) rfl (by decide +kernel) rfl rfl (Nat.le_of_ble_eq_true rfl) d_D_dropLatestSpan_14 (fun H locs hP hD hS => ?_)
    have hP : va_P E.1 gp_cl (gp_wG E (upd I 5 (nI ns)) F) H := hP
    have hD : va_D A (gp_wG E (upd I 5 (nI ns)) F) := hD
    exact gp_wv hx hb hr hlocks hAe rfl (hP) hS d_D_dropLatestSpan_17
set_option maxHeartbeats 4000000 in
set_option maxRecDepth 100000 in
theorem c_D_addTask (l : Launch) (E : gp_E) (I : Nat → Int32) (F : Nat → Nat → Int32) (nt : Nat) (x y z b : Int32) (hT : I 6 = nI nt) (hnt : nt < 6) (hb1 : vp_nar .boolean b = b) : gp_CW l y_D_addTask b_D_addTask 5 (some .int) 1 E (gp_wG E I F) (gp_wG E (upd I 6 (nI (nt + 1))) (gp_uF (gp_uF (gp_uF (gp_uF F 4 (upd (F 4) nt x)) 5 (upd (F 5) nt y)) 6 (upd (F 6) nt z)) 7 (upd (F 7) nt b))) [.ref (E.2.2.2 1), .int x, .int y, .int z, .int b] (some (.int (nI nt))) := by
  refine gp_ofW (by decide) (Nat.le_of_ble_eq_true rfl) ?_
  intro xp xe xs xm below meth xc ls A hx hb hr hts hown hlocks hml hP hK hD hA hAe hl
  have hS : va_S A xs.heap xs.heap [] := va_S.rf
  have hown : xs.vm.findClass "GuidePlans$Day" = some xm.cls := hown
  have hl : lv_has ls 5 [(0, .ref (E.2.2.2 1)), (1, .int x), (2, .int y), (3, .int z), (4, .int b)] := hl
  refine lv_aload_n hx hb d_D_addTask_0 rfl (lv_at hl 0 rfl) ?_
  refine va_get (D := E.1) (cl := gp_cl) (ci := 1) (v := .int (nI nt)) (C := R_D) (T := T_D) (N := 13) hx hb hts i_D hown hK hP 1 rfl rfl 10 (by decide) (hts _ w1_44) (fun _ h9 => h9) (congrArg (fun z => some (Value.int z)) hT) d_D_addTask_1 ?_
  refine lv_bipush (v := 6) hx hb d_D_addTask_4 (by decide) ?_
  refine lv_icmp_lt (tgt := 11) hx hb d_D_addTask_6 (by decide) (fun c6 => ?_) (fun c6 => ?_)
  · have c6 := c6
    have nc6 : nt < 6 := (nI_ltI (a := nt) (b := 6) (by omega) (by omega)).mp c6
    refine lv_aload_n hx hb d_D_addTask_11 rfl (lv_at hl 0 rfl) ?_
    refine va_get (D := E.1) (cl := gp_cl) (ci := 1) (v := .ref (E.2.2.2 7)) (C := R_D) (T := T_D) (N := 13) hx hb hts i_D hown hK hP 1 rfl rfl 4 (by decide) (hts _ w1_31) (fun _ h9 => h9) rfl d_D_addTask_12 ?_
    refine lv_aload_n hx hb d_D_addTask_15 rfl (lv_at hl 0 rfl) ?_
    refine va_get (D := E.1) (cl := gp_cl) (ci := 1) (v := .int (nI nt)) (C := R_D) (T := T_D) (N := 13) hx hb hts i_D hown hK hP 1 rfl rfl 10 (by decide) (hts _ w1_44) (fun _ h9 => h9) (congrArg (fun z => some (Value.int z)) hT) d_D_addTask_16 ?_
    refine lv_iload_n hx hb d_D_addTask_19 rfl (lv_at hl 1 rfl) ?_
    refine gp_ast (f := (F 4)) (n := 6) hx hb hK hP hD hS 7 rfl (nt) rfl (by omega) (by decide) d_D_addTask_20 (fun H locs hP hD hS => ?_)
    have hP : va_P E.1 gp_cl (gp_wG E I (gp_uF F 4 (upd (F 4) (nt) x))) H := hP
    have hD : va_D A (gp_wG E I (gp_uF F 4 (upd (F 4) (nt) x))) := hD
    refine lv_aload_n hx hb d_D_addTask_21 rfl (lv_at hl 0 rfl) ?_
    refine va_get (D := E.1) (cl := gp_cl) (ci := 1) (v := .ref (E.2.2.2 8)) (C := R_D) (T := T_D) (N := 13) hx hb hts i_D hown hK hP 1 rfl rfl 5 (by decide) (hts _ w1_32) (fun _ h9 => h9) rfl d_D_addTask_22 ?_
    refine lv_aload_n hx hb d_D_addTask_25 rfl (lv_at hl 0 rfl) ?_
    refine va_get (D := E.1) (cl := gp_cl) (ci := 1) (v := .int (nI nt)) (C := R_D) (T := T_D) (N := 13) hx hb hts i_D hown hK hP 1 rfl rfl 10 (by decide) (hts _ w1_44) (fun _ h9 => h9) (congrArg (fun z => some (Value.int z)) hT) d_D_addTask_26 ?_
    refine lv_iload_n hx hb d_D_addTask_29 rfl (lv_at hl 2 rfl) ?_
    refine gp_ast (f := (F 5)) (n := 6) hx hb hK hP hD hS 8 rfl (nt) rfl (by omega) (by decide) d_D_addTask_30 (fun H locs hP hD hS => ?_)
    have hP : va_P E.1 gp_cl (gp_wG E I (gp_uF (gp_uF F 4 (upd (F 4) (nt) x)) 5 (upd (F 5) (nt) y))) H := hP
    have hD : va_D A (gp_wG E I (gp_uF (gp_uF F 4 (upd (F 4) (nt) x)) 5 (upd (F 5) (nt) y))) := hD
    refine lv_aload_n hx hb d_D_addTask_31 rfl (lv_at hl 0 rfl) ?_
    refine va_get (D := E.1) (cl := gp_cl) (ci := 1) (v := .ref (E.2.2.2 9)) (C := R_D) (T := T_D) (N := 13) hx hb hts i_D hown hK hP 1 rfl rfl 6 (by decide) (hts _ w1_35) (fun _ h9 => h9) rfl d_D_addTask_32 ?_
    refine lv_aload_n hx hb d_D_addTask_35 rfl (lv_at hl 0 rfl) ?_
    refine va_get (D := E.1) (cl := gp_cl) (ci := 1) (v := .int (nI nt)) (C := R_D) (T := T_D) (N := 13) hx hb hts i_D hown hK hP 1 rfl rfl 10 (by decide) (hts _ w1_44) (fun _ h9 => h9) (congrArg (fun z => some (Value.int z)) hT) d_D_addTask_36 ?_
    refine lv_iload_n hx hb d_D_addTask_39 rfl (lv_at hl 3 rfl) ?_
    refine gp_ast (f := (F 6)) (n := 6) hx hb hK hP hD hS 9 rfl (nt) rfl (by omega) (by decide) d_D_addTask_40 (fun H locs hP hD hS => ?_)
    have hP : va_P E.1 gp_cl (gp_wG E I (gp_uF (gp_uF (gp_uF F 4 (upd (F 4) (nt) x)) 5 (upd (F 5) (nt) y)) 6 (upd (F 6) (nt) z))) H := hP
    have hD : va_D A (gp_wG E I (gp_uF (gp_uF (gp_uF F 4 (upd (F 4) (nt) x)) 5 (upd (F 5) (nt) y)) 6 (upd (F 6) (nt) z))) := hD
    refine lv_aload_n hx hb d_D_addTask_41 rfl (lv_at hl 0 rfl) ?_
    refine va_get (D := E.1) (cl := gp_cl) (ci := 1) (v := .ref (E.2.2.2 10)) (C := R_D) (T := T_D) (N := 13) hx hb hts i_D hown hK hP 1 rfl rfl 7 (by decide) (hts _ w1_36) (fun _ h9 => h9) rfl d_D_addTask_42 ?_
    refine lv_aload_n hx hb d_D_addTask_45 rfl (lv_at hl 0 rfl) ?_
    refine va_get (D := E.1) (cl := gp_cl) (ci := 1) (v := .int (nI nt)) (C := R_D) (T := T_D) (N := 13) hx hb hts i_D hown hK hP 1 rfl rfl 10 (by decide) (hts _ w1_44) (fun _ h9 => h9) (congrArg (fun z => some (Value.int z)) hT) d_D_addTask_46 ?_
    refine lv_iload hx hb d_D_addTask_49 (lv_at hl 4 rfl) ?_
    refine gp_zst (f := (F 7)) (n := 6) hx hb hK hP hD hS 10 rfl (nt) rfl (by omega) (by decide) hb1 d_D_addTask_51 (fun H locs hP hD hS => ?_)
    have hP : va_P E.1 gp_cl (gp_wG E I (gp_uF (gp_uF (gp_uF (gp_uF F 4 (upd (F 4) (nt) x)) 5 (upd (F 5) (nt) y)) 6 (upd (F 6) (nt) z)) 7 (upd (F 7) (nt) b))) H := hP
    have hD : va_D A (gp_wG E I (gp_uF (gp_uF (gp_uF (gp_uF F 4 (upd (F 4) (nt) x)) 5 (upd (F 5) (nt) y)) 6 (upd (F 6) (nt) z)) 7 (upd (F 7) (nt) b))) := hD
    refine lv_aload_n hx hb d_D_addTask_52 rfl (lv_at hl 0 rfl) ?_
    refine lv_dup hx hb d_D_addTask_53 rfl ?_
    refine va_get (D := E.1) (cl := gp_cl) (ci := 1) (v := .int (nI nt)) (C := R_D) (T := T_D) (N := 13) hx hb hts i_D hown hK hP 1 rfl rfl 10 (by decide) (hts _ w1_44) (fun _ h9 => h9) (congrArg (fun z => some (Value.int z)) hT) d_D_addTask_54 ?_
    refine lv_iconst (v := 1) hx hb d_D_addTask_57 (by decide) ?_
    refine lv_iadd hx hb d_D_addTask_58 ?_
    rw [show ((nI nt) + 1) = (nI (nt + 1)) from nI_1 _]
    refine va_put (D := E.1) (cl := gp_cl) (ci := 1) (v := .int (nI (nt + 1))) (ty := .int) (C := R_D) (T := T_D) (N := 13) hx hb hts i_D t_D t_D_ok n_D hown hK hP hD hS 1 rfl rfl 10 (by decide) (hts _ w1_44) (fun _ h9 => h9) rfl (by decide +kernel) rfl rfl (Nat.le_of_ble_eq_true rfl) d_D_addTask_59 (fun H locs hP hD hS => ?_)
    have hP : va_P E.1 gp_cl (gp_wG E (upd I 6 (nI (nt + 1))) (gp_uF (gp_uF (gp_uF (gp_uF F 4 (upd (F 4) (nt) x)) 5 (upd (F 5) (nt) y)) 6 (upd (F 6) (nt) z)) 7 (upd (F 7) (nt) b))) H := hP
    have hD : va_D A (gp_wG E (upd I 6 (nI (nt + 1))) (gp_uF (gp_uF (gp_uF (gp_uF F 4 (upd (F 4) (nt) x)) 5 (upd (F 5) (nt) y)) 6 (upd (F 6) (nt) z)) 7 (upd (F 7) (nt) b))) := hD
    refine lv_aload_n hx hb d_D_addTask_62 rfl (lv_at hl 0 rfl) ?_
    refine va_get (D := E.1) (cl := gp_cl) (ci := 1) (v := .int (nI (nt + 1))) (C := R_D) (T := T_D) (N := 13) hx hb hts i_D hown hK hP 1 rfl rfl 10 (by decide) (hts _ w1_44) (fun _ h9 => h9) rfl d_D_addTask_63 ?_
    refine lv_iconst (v := 1) hx hb d_D_addTask_66 (by decide) ?_
    refine lv_isub hx hb d_D_addTask_67 ?_
    rw [show ((nI (nt + 1)) - 1) = (nI nt) from nI_pred _]
    exact gp_wi hx hb hr hlocks hAe (rfl) (hP) hS d_D_addTask_68
  · have c6 := c6
    have nc6 : ¬ nt < 6 := fun h => c6 ((nI_ltI (a := nt) (b := 6) (by omega) (by omega)).mpr h)
    exact False.elim (by omega)
end
section
/-! ===== Search: what its methods answer and write ===== -/
abbrev gp_S : Type := (Nat → Int32) × (Nat → Nat → Int32)
def gp_us (x n : Int32) : Int32 := (x.toUInt32 >>> (n.toUInt32 &&& Int32.toUInt32 31)).toInt32
def gp_pop1 (x : Int32) : Int32 := x - (gp_us x 1 &&& 1431655765)
def gp_pop2 (a : Int32) : Int32 := (a &&& 858993459) + (gp_us a 2 &&& 858993459)
def gp_pop3 (b : Int32) : Int32 := (b + gp_us b 4) &&& 252645135
def gp_pop4 (c : Int32) : Int32 := c + gp_us c 8
def gp_pop5 (d : Int32) : Int32 := d + gp_us d 16
def gp_pop (x : Int32) : Int32 := gp_pop5 (gp_pop4 (gp_pop3 (gp_pop2 (gp_pop1 x)))) &&& 63
def gp_bit (x : Int32) : Int32 := 1 <<< ((if x = -1 then 4 else x) &&& 31)
def gp_bs (F : Nat → Nat → Int32) (ns t : Nat) : Nat → Int32
  | 0 => 0
  | k + 1 => if gp_suit F ns k t then gp_bs F ns t k ||| gp_bit (nI k) else gp_bs F ns t k
def gp_bn (I : Nat → Int32) (F : Nat → Nat → Int32) (t : Nat) : Nat → Int32
  | 0 => 0
  | k + 1 => if k = t then gp_bn I F t k else if gp_near I F k t then gp_bn I F t k ||| (1 <<< (nI k &&& 31)) else gp_bn I F t k
def gp_may (I : Nat → Int32) (F : Nat → Nat → Int32) (p t : Nat) : Bool := !decide (F 10 t &&& gp_bit (nI p) = 0) && decide (F 11 t &&& F 12 p = 0) && !decide (I 8 < F 13 p + (F 6 t - F 5 t))
def gp_wt (I : Nat → Int32) (f d a : Int32) : Int32 := if f = d then I 10 * a else I 10 * a + I 9
def gp_kt (nt : Nat) (sc : Int32) (σ : gp_S) : gp_S := (upd σ.1 11 sc, gp_uF σ.2 8 (fun j => if j < nt then σ.2 9 j else σ.2 8 j))
def gp_pp (rec : Int32 → gp_S → gp_S) (t p : Nat) (sc : Int32) (σ : gp_S) : gp_S :=
  let τ := rec (sc + gp_wt σ.1 (σ.2 14 t) (nI p) (2 * gp_pop (σ.2 12 p) + 1)) (σ.1, gp_uF (gp_uF (gp_uF σ.2 9 (upd (σ.2 9) t (nI p))) 12 (upd (σ.2 12) p (σ.2 12 p ||| (1 <<< (nI t &&& 31))))) 13 (upd (σ.2 13) p (σ.2 13 p + (σ.2 6 t - σ.2 5 t))))
  (τ.1, gp_uF (gp_uF τ.2 12 (upd (τ.2 12) p (τ.2 12 p &&& ((1 <<< (nI t &&& 31)) ^^^ (-1))))) 13 (upd (τ.2 13) p (τ.2 13 p - (τ.2 6 t - τ.2 5 t))))
def gp_lp (rec : Int32 → gp_S → gp_S) (t : Nat) (sc : Int32) (σ : gp_S) : Nat → gp_S
  | 0 => σ
  | p + 1 => if gp_may (gp_lp rec t sc σ p).1 (gp_lp rec t sc σ p).2 p t then gp_pp rec t p sc (gp_lp rec t sc σ p) else gp_lp rec t sc σ p
def gp_st (rec : Int32 → gp_S → gp_S) (np t : Nat) (sc : Int32) (σ : gp_S) : gp_S :=
  if (gp_lp rec t sc σ np).2 10 t &&& gp_bit (-1) = 0 then gp_lp rec t sc σ np
  else rec (sc + gp_wt (gp_lp rec t sc σ np).1 ((gp_lp rec t sc σ np).2 14 t) (-1) 100) ((gp_lp rec t sc σ np).1, gp_uF (gp_lp rec t sc σ np).2 9 (upd ((gp_lp rec t sc σ np).2 9) t (-1)))
def gp_pl (np nt : Nat) : Nat → Int32 → gp_S → gp_S
  | 0, sc, σ => if sc + σ.1 10 * (nI nt - nI nt) < σ.1 11 then gp_kt nt sc σ else σ
  | k + 1, sc, σ => if sc + σ.1 10 * (nI nt - nI (nt - (k + 1))) < σ.1 11 then gp_st (gp_pl np nt k) np (nt - (k + 1)) sc σ else σ
/-- what the search leaves as it is -/
def gp_kp (σ τ : gp_S) : Prop := (∀ i, i ≠ 11 → τ.1 i = σ.1 i) ∧ ∀ a, a ≠ 8 → a ≠ 9 → a ≠ 12 → a ≠ 13 → τ.2 a = σ.2 a
theorem gp_kp.rf {σ : gp_S} : gp_kp σ σ := ⟨fun _ _ => rfl, fun _ _ _ _ _ => rfl⟩
theorem gp_kp.tr {σ τ ρ : gp_S} (h : gp_kp σ τ) (h2 : gp_kp τ ρ) : gp_kp σ ρ := ⟨fun i hi => (h2.1 i hi).trans (h.1 i hi), fun a h8 h9 h12 h13 => (h2.2 a h8 h9 h12 h13).trans (h.2 a h8 h9 h12 h13)⟩
theorem gp_uF_ne {F : Nat → Nat → Int32} {a k : Nat} {g : Nat → Int32} (h : a ≠ k) : gp_uF F k g a = F a := by simp [gp_uF, h]
theorem gp_kt_kp {nt : Nat} {sc : Int32} {σ : gp_S} : gp_kp σ (gp_kt nt sc σ) := ⟨fun i hi => by simp [gp_kt, upd, hi], fun a h8 _ _ _ => gp_uF_ne h8⟩
theorem gp_pp_kp {rec : Int32 → gp_S → gp_S} (hk : ∀ sc σ, gp_kp σ (rec sc σ)) {t p : Nat} {sc : Int32} {σ : gp_S} : gp_kp σ (gp_pp rec t p sc σ) := by
  refine ⟨fun i hi => ?_, fun a h8 h9 h12 h13 => ?_⟩
  · exact (hk _ _).1 i hi
  · refine (gp_uF_ne h13).trans ((gp_uF_ne h12).trans (((hk _ _).2 a h8 h9 h12 h13).trans ?_))
    exact (gp_uF_ne h13).trans ((gp_uF_ne h12).trans (gp_uF_ne h9))
theorem gp_lp_kp {rec : Int32 → gp_S → gp_S} (hk : ∀ sc σ, gp_kp σ (rec sc σ)) {t : Nat} {sc : Int32} {σ : gp_S} : ∀ p, gp_kp σ (gp_lp rec t sc σ p) := by
  intro p
  induction p with
  | zero => exact gp_kp.rf
  | succ p ih =>
    rw [gp_lp]
    split
    · exact ih.tr (gp_pp_kp hk)
    · exact ih
theorem gp_st_kp {rec : Int32 → gp_S → gp_S} (hk : ∀ sc σ, gp_kp σ (rec sc σ)) {np t : Nat} {sc : Int32} {σ : gp_S} : gp_kp σ (gp_st rec np t sc σ) := by
  unfold gp_st
  split
  · exact gp_lp_kp hk np
  · have h1 : gp_kp σ (gp_lp rec t sc σ np) := gp_lp_kp hk np
    generalize gp_lp rec t sc σ np = τ at h1 ⊢
    refine h1.tr (gp_kp.tr (τ := (τ.1, gp_uF τ.2 9 (upd (τ.2 9) t (-1)))) ?_ (hk _ _))
    exact ⟨fun _ _ => rfl, fun a _ h9 _ _ => gp_uF_ne h9⟩
theorem gp_pl_kp {np nt : Nat} : ∀ k sc σ, gp_kp σ (gp_pl np nt k sc σ) := by
  intro k
  induction k with
  | zero =>
    intro sc σ
    rw [gp_pl]
    split
    · exact gp_kt_kp
    · exact gp_kp.rf
  | succ k ih =>
    intro sc σ
    rw [gp_pl]
    split
    · exact gp_st_kp ih
    · exact gp_kp.rf
theorem gp_cp0 {F : Nat → Nat → Int32} {a : Nat} {g : Nat → Int32} : gp_uF F a (fun j => if j < 0 then g j else F a j) = F := by
  funext j k
  by_cases h : j = a
  · subst h; simp [gp_uF]
  · simp [gp_uF, h]
theorem gp_up1 {h k : Nat → Int32} {t : Nat} {V : Int32} (hV : V = h t) : upd (fun j => if j < t then h j else k j) t V = (fun j => if j < t + 1 then h j else k j) := by
  funext j
  by_cases e : j = t
  · subst e; simp [upd, hV]
  · have e2 : (j < t + 1) = (j < t) := by apply propext; omega
    simp [upd, e, e2]
theorem gp_up2 {h k : Nat → Int32} {t : Nat} {V V0 : Int32} (hV : V = h t) : upd (upd (fun j => if j < t then h j else k j) t V0) t V = (fun j => if j < t + 1 then h j else k j) := by
  funext j
  by_cases e : j = t
  · subst e; simp [upd, hV]
  · have e2 : (j < t + 1) = (j < t) := by apply propext; omega
    simp [upd, e, e2]
theorem gp_F1 {F G : Nat → Nat → Int32} {a : Nat} {f : Nat → Int32} (h1 : G a = f) (h3 : ∀ c, c ≠ a → G c = F c) : G = gp_uF F a f := by
  funext c j
  by_cases e : c = a
  · subst e; simp [gp_uF, h1]
  · simp [gp_uF, e, h3 c e]
theorem gp_F2 {F G : Nat → Nat → Int32} {a b : Nat} {f g : Nat → Int32} (hab : a ≠ b) (h1 : G a = f) (h2 : G b = g) (h3 : ∀ c, c ≠ a → c ≠ b → G c = F c) : G = gp_uF (gp_uF F a f) b g := by
  funext c j
  by_cases e : c = b
  · subst e; simp [gp_uF, h2]
  · by_cases e2 : c = a
    · subst e2; simp [gp_uF, e, h1]
    · simp [gp_uF, e, e2, h3 c e2 e]
set_option maxHeartbeats 4000000 in
set_option maxRecDepth 100000 in
theorem c_J_bitCount (l : Launch) (E : gp_E) (I : Nat → Int32) (F : Nat → Nat → Int32) (x : Int32)  : gp_CR l y_J_bitCount b_J_bitCount 1 (some .int) 1 E (gp_wG E I F) [.int x] (gp_pop x) := by
  refine gp_ofR (by decide) (Nat.le_of_ble_eq_true rfl) ?_
  intro xp xe xs xm below meth xc ls hx hb hr hts hown hlocks hml hP hK hl
  have hown : xs.vm.findClass "java/lang/Integer" = some xm.cls := hown
  have hl : lv_has ls 1 [(0, .int x)] := hl
  refine lv_iload_n hx hb d_J_bitCount_0 rfl (lv_at hl 0 rfl) ?_
  refine lv_iload_n hx hb d_J_bitCount_1 rfl (lv_at hl 0 rfl) ?_
  refine lv_iconst (v := 1) hx hb d_J_bitCount_2 (by decide) ?_
  refine lv_iushr (v := (gp_us x 1)) hx hb d_J_bitCount_3 rfl ?_
  refine lv_ldcw (v := 1431655765) hx hb hown (hts _ w1_209) d_J_bitCount_4 ?_
  refine lv_iand hx hb d_J_bitCount_7 ?_
  refine lv_isub hx hb d_J_bitCount_8 ?_
  refine lv_topi (fun x1 ex1 => ?_)
  refine lv_istore_n (lv' := [(0, .int x1)]) hx hb d_J_bitCount_9 rfl hl (by decide) rfl (fun ls hl => ?_)
  refine lv_iload_n hx hb d_J_bitCount_10 rfl (lv_at hl 0 rfl) ?_
  refine lv_ldcw (v := 858993459) hx hb hown (hts _ w1_210) d_J_bitCount_11 ?_
  refine lv_iand hx hb d_J_bitCount_14 ?_
  refine lv_iload_n hx hb d_J_bitCount_15 rfl (lv_at hl 0 rfl) ?_
  refine lv_iconst (v := 2) hx hb d_J_bitCount_16 (by decide) ?_
  refine lv_iushr (v := (gp_us x1 2)) hx hb d_J_bitCount_17 rfl ?_
  refine lv_ldcw (v := 858993459) hx hb hown (hts _ w1_210) d_J_bitCount_18 ?_
  refine lv_iand hx hb d_J_bitCount_21 ?_
  refine lv_iadd hx hb d_J_bitCount_22 ?_
  refine lv_topi (fun x2 ex2 => ?_)
  refine lv_istore_n (lv' := [(0, .int x2)]) hx hb d_J_bitCount_23 rfl hl (by decide) rfl (fun ls hl => ?_)
  refine lv_iload_n hx hb d_J_bitCount_24 rfl (lv_at hl 0 rfl) ?_
  refine lv_iload_n hx hb d_J_bitCount_25 rfl (lv_at hl 0 rfl) ?_
  refine lv_iconst (v := 4) hx hb d_J_bitCount_26 (by decide) ?_
  refine lv_iushr (v := (gp_us x2 4)) hx hb d_J_bitCount_27 rfl ?_
  refine lv_iadd hx hb d_J_bitCount_28 ?_
  refine lv_ldcw (v := 252645135) hx hb hown (hts _ w1_211) d_J_bitCount_29 ?_
  refine lv_iand hx hb d_J_bitCount_32 ?_
  refine lv_topi (fun x3 ex3 => ?_)
  refine lv_istore_n (lv' := [(0, .int x3)]) hx hb d_J_bitCount_33 rfl hl (by decide) rfl (fun ls hl => ?_)
  refine lv_iload_n hx hb d_J_bitCount_34 rfl (lv_at hl 0 rfl) ?_
  refine lv_iload_n hx hb d_J_bitCount_35 rfl (lv_at hl 0 rfl) ?_
  refine lv_bipush (v := 8) hx hb d_J_bitCount_36 (by decide) ?_
  refine lv_iushr (v := (gp_us x3 8)) hx hb d_J_bitCount_38 rfl ?_
  refine lv_iadd hx hb d_J_bitCount_39 ?_
  refine lv_topi (fun x4 ex4 => ?_)
  refine lv_istore_n (lv' := [(0, .int x4)]) hx hb d_J_bitCount_40 rfl hl (by decide) rfl (fun ls hl => ?_)
  refine lv_iload_n hx hb d_J_bitCount_41 rfl (lv_at hl 0 rfl) ?_
  refine lv_iload_n hx hb d_J_bitCount_42 rfl (lv_at hl 0 rfl) ?_
  refine lv_bipush (v := 16) hx hb d_J_bitCount_43 (by decide) ?_
  refine lv_iushr (v := (gp_us x4 16)) hx hb d_J_bitCount_45 rfl ?_
  refine lv_iadd hx hb d_J_bitCount_46 ?_
  refine lv_topi (fun x5 ex5 => ?_)
  refine lv_istore_n (lv' := [(0, .int x5)]) hx hb d_J_bitCount_47 rfl hl (by decide) rfl (fun ls hl => ?_)
  refine lv_iload_n hx hb d_J_bitCount_48 rfl (lv_at hl 0 rfl) ?_
  refine lv_bipush (v := 63) hx hb d_J_bitCount_49 (by decide) ?_
  refine lv_iand hx hb d_J_bitCount_51 ?_
  exact gp_ri hx hb hr hlocks (by subst ex5; subst ex4; subst ex3; subst ex2; subst ex1; rfl) d_J_bitCount_52
set_option maxHeartbeats 4000000 in
set_option maxRecDepth 100000 in
theorem c_S_bitOf (l : Launch) (E : gp_E) (I : Nat → Int32) (F : Nat → Nat → Int32) (x : Int32)  : gp_CR l y_S_bitOf b_S_bitOf 2 (some .int) 1 E (gp_wG E I F) [.ref (E.2.2.2 2), .int x] (gp_bit x) := by
  refine gp_ofR (by decide) (Nat.le_of_ble_eq_true rfl) ?_
  intro xp xe xs xm below meth xc ls hx hb hr hts hown hlocks hml hP hK hl
  have hown : xs.vm.findClass "GuidePlans$Search" = some xm.cls := hown
  have hl : lv_has ls 2 [(0, .ref (E.2.2.2 2)), (1, .int x)] := hl
  refine lv_iconst (v := 1) hx hb d_S_bitOf_0 (by decide) ?_
  refine lv_iload_n hx hb d_S_bitOf_1 rfl (lv_at hl 1 rfl) ?_
  refine lv_iconst (v := (-1)) hx hb d_S_bitOf_2 (by decide) ?_
  refine lv_icmp_ne (tgt := 10) hx hb d_S_bitOf_3 (by decide) (fun c3 => ?_) (fun c3 => ?_)
  · have c3 := c3
    refine lv_iload_n hx hb d_S_bitOf_10 rfl (lv_at hl 1 rfl) ?_
    refine lv_ishl hx hb d_S_bitOf_11 ?_
    exact gp_ri hx hb hr hlocks (by simp [gp_bit, c3]) d_S_bitOf_12
  · have c3 := c3
    refine lv_iconst (v := 4) hx hb d_S_bitOf_6 (by decide) ?_
    refine lv_goto (tgt := 11) hx hb d_S_bitOf_7 (by decide) ?_
    refine lv_ishl hx hb d_S_bitOf_11 ?_
    exact gp_ri hx hb hr hlocks (by simp [gp_bit, c3]) d_S_bitOf_12
set_option maxHeartbeats 4000000 in
set_option maxRecDepth 100000 in
theorem c_S_bitsOfSuiting (l : Launch) (E : gp_E) (I : Nat → Int32) (F : Nat → Nat → Int32) (np nt ns t : Nat) (hp4 : I 4 = nI np) (hT : I 6 = nI nt) (hN : I 5 = nI ns) (hnp : np ≤ 4) (hnt : nt ≤ 6) (hns : ns ≤ 20) (ht : t < nt) : gp_CR l y_S_bitsOfSuiting b_S_bitsOfSuiting 5 (some .int) 3 E (gp_wG E I F) [.ref (E.2.2.2 2), .ref (E.2.2.2 1), .int (nI t)] (gp_bs F ns t np) := by
  refine gp_ofR (by decide) (Nat.le_of_ble_eq_true rfl) ?_
  intro xp xe xs xm below meth xc ls hx hb hr hts hown hlocks hml hP hK hl
  have hown : xs.vm.findClass "GuidePlans$Search" = some xm.cls := hown
  have hl : lv_has ls 5 [(0, .ref (E.2.2.2 2)), (1, .ref (E.2.2.2 1)), (2, .int (nI t))] := hl
  refine lv_iconst (v := 0) hx hb d_S_bitsOfSuiting_0 (by decide) ?_
  refine lv_istore_n (lv' := [(3, .int 0), (0, .ref (E.2.2.2 2)), (1, .ref (E.2.2.2 1)), (2, .int (nI t))]) hx hb d_S_bitsOfSuiting_1 rfl hl (by decide) rfl (fun ls hl => ?_)
  refine lv_iconst (v := 0) hx hb d_S_bitsOfSuiting_2 (by decide) ?_
  refine lv_istore (lv' := [(4, .int 0), (3, .int 0), (0, .ref (E.2.2.2 2)), (1, .ref (E.2.2.2 1)), (2, .int (nI t))]) hx hb d_S_bitsOfSuiting_3 hl (by decide) rfl (fun ls hl => ?_)
  have L5 : ∀ (n : Nat) (p : Nat), p ≤ np → np + 1 ≤ p + n → ∀ (ls : Array Slot), lv_has ls 5 [(4, .int (nI p)), (3, .int (gp_bs F ns t p)), (0, .ref (E.2.2.2 2)), (1, .ref (E.2.2.2 1)), (2, .int (nI t))] → W xp l xe (gp_rm 3 0 0) xs xm ([.ref (E.2.2.2 2), .ref (E.2.2.2 1), .int (nI t)] : List Value).toArray below meth xc xs.heap [] 0 0 (MQ below (QcRead (gp_bs F ns t np)) ([.ref (E.2.2.2 2), .ref (E.2.2.2 1), .int (nI t)] : List Value).toArray xs 0 0 (fun _ => False)) (F0 xm 5 ls []) := by
    intro n
    induction n with
    | zero =>
      intro p h1 hm
      exact absurd hm (by omega)
    | succ n ih5 =>
      intro p h1 hm ls hl
      refine lv_iload hx hb d_S_bitsOfSuiting_5 (lv_at hl 0 rfl) ?_
      refine lv_aload_n hx hb d_S_bitsOfSuiting_7 rfl (lv_at hl 3 rfl) ?_
      refine va_get (D := E.1) (cl := gp_cl) (ci := 1) (v := .int (nI np)) (C := R_D) (T := T_D) (N := 13) hx hb hts i_D hown hK hP 1 rfl rfl 8 (by decide) (hts _ w1_41) (fun _ h9 => h9) (congrArg (fun z => some (Value.int z)) hp4) d_S_bitsOfSuiting_8 ?_
      refine lv_icmp_ge (tgt := 39) hx hb d_S_bitsOfSuiting_11 (by decide) (fun c11 => ?_) (fun c11 => ?_)
      · have c11 := c11
        have nc11 : np ≤ p := (nI_leI (a := np) (b := p) (by omega) (by omega)).mp c11
        refine lv_iload_n hx hb d_S_bitsOfSuiting_39 rfl (lv_at hl 1 rfl) ?_
        exact gp_ri hx hb hr hlocks (by rw [show p = np by omega]) d_S_bitsOfSuiting_40
      · have c11 := c11
        have nc11 : ¬ np ≤ p := fun h => c11 ((nI_leI (a := np) (b := p) (by omega) (by omega)).mpr h)
        refine lv_aload_n hx hb d_S_bitsOfSuiting_14 rfl (lv_at hl 3 rfl) ?_
        refine lv_iload hx hb d_S_bitsOfSuiting_15 (lv_at hl 0 rfl) ?_
        refine lv_iload_n hx hb d_S_bitsOfSuiting_17 rfl (lv_at hl 4 rfl) ?_
        refine gp_cR (q0 := 1) (ci := 1) (As := [.int (nI p), .int (nI t)]) (rest := []) ⟨hx, hb, hml, hown, hts⟩ (c_D_suits l E I F np nt ns p t hp4 hT hN hnp hnt hns (by omega) ht) (k_S_75 hts ⟨by decide, by decide⟩ rfl rfl) hK hP rfl rfl rfl hl.1 rfl (Nat.le_of_ble_eq_true rfl) d_S_bitsOfSuiting_18 ⟨Nat.le_of_ble_eq_true rfl, Nat.le_of_ble_eq_true rfl⟩ ?_
        by_cases hs18 : gp_suit F ns p t = true
        · rw [if_pos hs18]
          refine lv_if_eq (tgt := 33) hx hb d_S_bitsOfSuiting_21 (by decide) (fun c21 => ?_) (fun c21 => ?_)
          · exact absurd c21 (by decide)
          · have c21 := c21
            have nc21 : ¬ 1 = 0 := fun h => c21 ((nI_eq (a := 1) (b := 0) (by omega) (by omega)).mpr h)
            refine lv_iload_n hx hb d_S_bitsOfSuiting_24 rfl (lv_at hl 1 rfl) ?_
            refine lv_aload_n hx hb d_S_bitsOfSuiting_25 rfl (lv_at hl 2 rfl) ?_
            refine lv_iload hx hb d_S_bitsOfSuiting_26 (lv_at hl 0 rfl) ?_
            refine gp_cR (q0 := 2) (ci := 2) (As := [.int (nI p)]) (rest := [.int (gp_bs F ns t p)]) ⟨hx, hb, hml, hown, hts⟩ (c_S_bitOf l E I F (nI p)) (k_S_57 hts ⟨by decide, by decide⟩ rfl rfl) hK hP rfl rfl rfl hl.1 rfl (Nat.le_of_ble_eq_true rfl) d_S_bitsOfSuiting_28 ⟨Nat.le_of_ble_eq_true rfl, Nat.le_of_ble_eq_true rfl⟩ ?_
            refine lv_ior hx hb d_S_bitsOfSuiting_31 ?_
            refine lv_istore_n (lv' := [(3, .int ((gp_bs F ns t p) ||| (gp_bit (nI p)))), (4, .int (nI p)), (0, .ref (E.2.2.2 2)), (1, .ref (E.2.2.2 1)), (2, .int (nI t))]) hx hb d_S_bitsOfSuiting_32 rfl hl (by decide) rfl (fun ls hl => ?_)
            refine lv_iinc (v := (nI (p + 1))) (lv' := [(4, .int (nI (p + 1))), (3, .int ((gp_bs F ns t p) ||| (gp_bit (nI p)))), (0, .ref (E.2.2.2 2)), (1, .ref (E.2.2.2 1)), (2, .int (nI t))]) hx hb d_S_bitsOfSuiting_33 hl (k := 1) rfl (nI_1 _) (by decide) rfl (fun ls hl => ?_)
            refine lv_goto (tgt := 5) hx hb d_S_bitsOfSuiting_36 (by decide) ?_
            rw [show ((gp_bs F ns t p) ||| (gp_bit (nI p))) = (gp_bs F ns t (p + 1)) from by simp [gp_bs, h1, c11, nc11, hs18, c21, nc21]] at hl
            exact ih5 (p + 1) (by omega) (by omega) ls (lv_sub hl [0, 1, 2, 3, 4] rfl)
        · rw [if_neg hs18]
          refine lv_if_eq (tgt := 33) hx hb d_S_bitsOfSuiting_21 (by decide) (fun c21 => ?_) (fun c21 => ?_)
          · have c21 := c21
            have nc21 : 0 = 0 := (nI_eq (a := 0) (b := 0) (by omega) (by omega)).mp c21
            refine lv_iinc (v := (nI (p + 1))) (lv' := [(4, .int (nI (p + 1))), (3, .int (gp_bs F ns t p)), (0, .ref (E.2.2.2 2)), (1, .ref (E.2.2.2 1)), (2, .int (nI t))]) hx hb d_S_bitsOfSuiting_33 hl (k := 0) rfl (nI_1 _) (by decide) rfl (fun ls hl => ?_)
            refine lv_goto (tgt := 5) hx hb d_S_bitsOfSuiting_36 (by decide) ?_
            rw [show (gp_bs F ns t p) = (gp_bs F ns t (p + 1)) from by simp [gp_bs, h1, c11, nc11, hs18, c21, nc21]] at hl
            exact ih5 (p + 1) (by omega) (by omega) ls (lv_sub hl [0, 1, 2, 3, 4] rfl)
          · exact absurd c21 (by decide)
  exact L5 (np + 1) 0 (Nat.zero_le _) (by omega) ls (lv_sub hl [0, 1, 2, 3, 4] rfl)
set_option maxHeartbeats 4000000 in
set_option maxRecDepth 100000 in
theorem c_S_bitsOfTooNear (l : Launch) (E : gp_E) (I : Nat → Int32) (F : Nat → Nat → Int32) (nt t : Nat) (hT : I 6 = nI nt) (hnt : nt ≤ 6) (ht : t < nt) : gp_CR l y_S_bitsOfTooNear b_S_bitsOfTooNear 5 (some .int) 3 E (gp_wG E I F) [.ref (E.2.2.2 2), .ref (E.2.2.2 1), .int (nI t)] (gp_bn I F t nt) := by
  refine gp_ofR (by decide) (Nat.le_of_ble_eq_true rfl) ?_
  intro xp xe xs xm below meth xc ls hx hb hr hts hown hlocks hml hP hK hl
  have hown : xs.vm.findClass "GuidePlans$Search" = some xm.cls := hown
  have hl : lv_has ls 5 [(0, .ref (E.2.2.2 2)), (1, .ref (E.2.2.2 1)), (2, .int (nI t))] := hl
  refine lv_iconst (v := 0) hx hb d_S_bitsOfTooNear_0 (by decide) ?_
  refine lv_istore_n (lv' := [(3, .int 0), (0, .ref (E.2.2.2 2)), (1, .ref (E.2.2.2 1)), (2, .int (nI t))]) hx hb d_S_bitsOfTooNear_1 rfl hl (by decide) rfl (fun ls hl => ?_)
  refine lv_iconst (v := 0) hx hb d_S_bitsOfTooNear_2 (by decide) ?_
  refine lv_istore (lv' := [(4, .int 0), (3, .int 0), (0, .ref (E.2.2.2 2)), (1, .ref (E.2.2.2 1)), (2, .int (nI t))]) hx hb d_S_bitsOfTooNear_3 hl (by decide) rfl (fun ls hl => ?_)
  have L5 : ∀ (n : Nat) (u : Nat), u ≤ nt → nt + 1 ≤ u + n → ∀ (ls : Array Slot), lv_has ls 5 [(4, .int (nI u)), (3, .int (gp_bn I F t u)), (0, .ref (E.2.2.2 2)), (1, .ref (E.2.2.2 1)), (2, .int (nI t))] → W xp l xe (gp_rm 3 0 0) xs xm ([.ref (E.2.2.2 2), .ref (E.2.2.2 1), .int (nI t)] : List Value).toArray below meth xc xs.heap [] 0 0 (MQ below (QcRead (gp_bn I F t nt)) ([.ref (E.2.2.2 2), .ref (E.2.2.2 1), .int (nI t)] : List Value).toArray xs 0 0 (fun _ => False)) (F0 xm 5 ls []) := by
    intro n
    induction n with
    | zero =>
      intro u h1 hm
      exact absurd hm (by omega)
    | succ n ih5 =>
      intro u h1 hm ls hl
      refine lv_iload hx hb d_S_bitsOfTooNear_5 (lv_at hl 0 rfl) ?_
      refine lv_aload_n hx hb d_S_bitsOfTooNear_7 rfl (lv_at hl 3 rfl) ?_
      refine va_get (D := E.1) (cl := gp_cl) (ci := 1) (v := .int (nI nt)) (C := R_D) (T := T_D) (N := 13) hx hb hts i_D hown hK hP 1 rfl rfl 10 (by decide) (hts _ w1_45) (fun _ h9 => h9) (congrArg (fun z => some (Value.int z)) hT) d_S_bitsOfTooNear_8 ?_
      refine lv_icmp_ge (tgt := 43) hx hb d_S_bitsOfTooNear_11 (by decide) (fun c11 => ?_) (fun c11 => ?_)
      · have c11 := c11
        have nc11 : nt ≤ u := (nI_leI (a := nt) (b := u) (by omega) (by omega)).mp c11
        refine lv_iload_n hx hb d_S_bitsOfTooNear_43 rfl (lv_at hl 1 rfl) ?_
        exact gp_ri hx hb hr hlocks (by rw [show u = nt by omega]) d_S_bitsOfTooNear_44
      · have c11 := c11
        have nc11 : ¬ nt ≤ u := fun h => c11 ((nI_leI (a := nt) (b := u) (by omega) (by omega)).mpr h)
        refine lv_iload hx hb d_S_bitsOfTooNear_14 (lv_at hl 0 rfl) ?_
        refine lv_iload_n hx hb d_S_bitsOfTooNear_16 rfl (lv_at hl 4 rfl) ?_
        refine lv_icmp_eq (tgt := 37) hx hb d_S_bitsOfTooNear_17 (by decide) (fun c17 => ?_) (fun c17 => ?_)
        · have c17 := c17
          have nc17 : u = t := (nI_eq (a := u) (b := t) (by omega) (by omega)).mp c17
          refine lv_iinc (v := (nI (u + 1))) (lv' := [(4, .int (nI (u + 1))), (3, .int (gp_bn I F t u)), (0, .ref (E.2.2.2 2)), (1, .ref (E.2.2.2 1)), (2, .int (nI t))]) hx hb d_S_bitsOfTooNear_37 hl (k := 0) rfl (nI_1 _) (by decide) rfl (fun ls hl => ?_)
          refine lv_goto (tgt := 5) hx hb d_S_bitsOfTooNear_40 (by decide) ?_
          rw [show (gp_bn I F t u) = (gp_bn I F t (u + 1)) from by simp [gp_bn, h1, c11, nc11, c17, nc17]] at hl
          exact ih5 (u + 1) (by omega) (by omega) ls (lv_sub hl [0, 1, 2, 3, 4] rfl)
        · have c17 := c17
          have nc17 : ¬ u = t := fun h => c17 ((nI_eq (a := u) (b := t) (by omega) (by omega)).mpr h)
          refine lv_aload_n hx hb d_S_bitsOfTooNear_20 rfl (lv_at hl 3 rfl) ?_
          refine lv_iload hx hb d_S_bitsOfTooNear_21 (lv_at hl 0 rfl) ?_
          refine lv_iload_n hx hb d_S_bitsOfTooNear_23 rfl (lv_at hl 4 rfl) ?_
          refine gp_cR (q0 := 1) (ci := 1) (As := [.int (nI u), .int (nI t)]) (rest := []) ⟨hx, hb, hml, hown, hts⟩ (c_D_areTooNear l E I F nt u t hT hnt (by omega) ht) (k_S_79 hts ⟨by decide, by decide⟩ rfl rfl) hK hP rfl rfl rfl hl.1 rfl (Nat.le_of_ble_eq_true rfl) d_S_bitsOfTooNear_24 ⟨Nat.le_of_ble_eq_true rfl, Nat.le_of_ble_eq_true rfl⟩ ?_
          by_cases hs24 : gp_near I F u t = true
          · rw [if_pos hs24]
            refine lv_if_eq (tgt := 37) hx hb d_S_bitsOfTooNear_27 (by decide) (fun c27 => ?_) (fun c27 => ?_)
            · exact absurd c27 (by decide)
            · have c27 := c27
              have nc27 : ¬ 1 = 0 := fun h => c27 ((nI_eq (a := 1) (b := 0) (by omega) (by omega)).mpr h)
              refine lv_iload_n hx hb d_S_bitsOfTooNear_30 rfl (lv_at hl 1 rfl) ?_
              refine lv_iconst (v := 1) hx hb d_S_bitsOfTooNear_31 (by decide) ?_
              refine lv_iload hx hb d_S_bitsOfTooNear_32 (lv_at hl 0 rfl) ?_
              refine lv_ishl hx hb d_S_bitsOfTooNear_34 ?_
              refine lv_ior hx hb d_S_bitsOfTooNear_35 ?_
              refine lv_istore_n (lv' := [(3, .int ((gp_bn I F t u) ||| (1 <<< ((nI u) &&& 31)))), (4, .int (nI u)), (0, .ref (E.2.2.2 2)), (1, .ref (E.2.2.2 1)), (2, .int (nI t))]) hx hb d_S_bitsOfTooNear_36 rfl hl (by decide) rfl (fun ls hl => ?_)
              refine lv_iinc (v := (nI (u + 1))) (lv' := [(4, .int (nI (u + 1))), (3, .int ((gp_bn I F t u) ||| (1 <<< ((nI u) &&& 31)))), (0, .ref (E.2.2.2 2)), (1, .ref (E.2.2.2 1)), (2, .int (nI t))]) hx hb d_S_bitsOfTooNear_37 hl (k := 1) rfl (nI_1 _) (by decide) rfl (fun ls hl => ?_)
              refine lv_goto (tgt := 5) hx hb d_S_bitsOfTooNear_40 (by decide) ?_
              rw [show ((gp_bn I F t u) ||| (1 <<< ((nI u) &&& 31))) = (gp_bn I F t (u + 1)) from by simp [gp_bn, h1, c11, nc11, c17, nc17, hs24, c27, nc27]] at hl
              exact ih5 (u + 1) (by omega) (by omega) ls (lv_sub hl [0, 1, 2, 3, 4] rfl)
          · rw [if_neg hs24]
            refine lv_if_eq (tgt := 37) hx hb d_S_bitsOfTooNear_27 (by decide) (fun c27 => ?_) (fun c27 => ?_)
            · have c27 := c27
              have nc27 : 0 = 0 := (nI_eq (a := 0) (b := 0) (by omega) (by omega)).mp c27
              refine lv_iinc (v := (nI (u + 1))) (lv' := [(4, .int (nI (u + 1))), (3, .int (gp_bn I F t u)), (0, .ref (E.2.2.2 2)), (1, .ref (E.2.2.2 1)), (2, .int (nI t))]) hx hb d_S_bitsOfTooNear_37 hl (k := 0) rfl (nI_1 _) (by decide) rfl (fun ls hl => ?_)
              refine lv_goto (tgt := 5) hx hb d_S_bitsOfTooNear_40 (by decide) ?_
              rw [show (gp_bn I F t u) = (gp_bn I F t (u + 1)) from by simp [gp_bn, h1, c11, nc11, c17, nc17, hs24, c27, nc27]] at hl
              exact ih5 (u + 1) (by omega) (by omega) ls (lv_sub hl [0, 1, 2, 3, 4] rfl)
            · exact absurd c27 (by decide)
  exact L5 (nt + 1) 0 (Nat.zero_le _) (by omega) ls (lv_sub hl [0, 1, 2, 3, 4] rfl)
set_option maxHeartbeats 4000000 in
set_option maxRecDepth 100000 in
theorem c_S_mayTake (l : Launch) (E : gp_E) (I : Nat → Int32) (F : Nat → Nat → Int32) (nt p t : Nat) (hT : I 6 = nI nt) (hnt : nt ≤ 6) (ht : t < nt) (hp : p < 4) : gp_CR l y_S_mayTake b_S_mayTake 4 (some .boolean) 3 E (gp_wG E I F) [.ref (E.2.2.2 2), .ref (E.2.2.2 1), .int (nI p), .int (nI t)] (if gp_may I F p t then 1 else 0) := by
  refine gp_ofR (by decide) (Nat.le_of_ble_eq_true rfl) ?_
  intro xp xe xs xm below meth xc ls hx hb hr hts hown hlocks hml hP hK hl
  have hown : xs.vm.findClass "GuidePlans$Search" = some xm.cls := hown
  have hl : lv_has ls 4 [(0, .ref (E.2.2.2 2)), (1, .ref (E.2.2.2 1)), (2, .int (nI p)), (3, .int (nI t))] := hl
  refine lv_aload_n hx hb d_S_mayTake_0 rfl (lv_at hl 0 rfl) ?_
  refine va_get (D := E.1) (cl := gp_cl) (ci := 2) (v := .ref (E.2.2.2 13)) (C := R_S) (T := T_S) (N := 9) hx hb hts i_S hown hK hP 2 rfl rfl 2 (by decide) (hts _ w1_91) (fun _ h9 => h9) rfl d_S_mayTake_1 ?_
  refine lv_iload_n hx hb d_S_mayTake_4 rfl (lv_at hl 3 rfl) ?_
  refine gp_ald (f := (F 10)) (n := 6) hx hb hK hP 13 rfl (t) rfl (by omega) (by decide) d_S_mayTake_5 ?_
  refine lv_aload_n hx hb d_S_mayTake_6 rfl (lv_at hl 0 rfl) ?_
  refine lv_iload_n hx hb d_S_mayTake_7 rfl (lv_at hl 2 rfl) ?_
  refine gp_cR (q0 := 2) (ci := 2) (As := [.int (nI p)]) (rest := [.int ((F 10) (t))]) ⟨hx, hb, hml, hown, hts⟩ (c_S_bitOf l E I F (nI p)) (k_S_57 hts ⟨by decide, by decide⟩ rfl rfl) hK hP rfl rfl rfl hl.1 rfl (Nat.le_of_ble_eq_true rfl) d_S_mayTake_8 ⟨Nat.le_of_ble_eq_true rfl, Nat.le_of_ble_eq_true rfl⟩ ?_
  refine lv_iand hx hb d_S_mayTake_11 ?_
  refine lv_if_eq (tgt := 54) hx hb d_S_mayTake_12 (by decide) (fun c12 => ?_) (fun c12 => ?_)
  · have c12 := c12
    refine lv_iconst (v := 0) hx hb d_S_mayTake_54 (by decide) ?_
    exact gp_rz hx hb hr hlocks (rfl) (by simp [gp_may, c12]) d_S_mayTake_55
  · have c12 := c12
    refine lv_aload_n hx hb d_S_mayTake_15 rfl (lv_at hl 0 rfl) ?_
    refine va_get (D := E.1) (cl := gp_cl) (ci := 2) (v := .ref (E.2.2.2 14)) (C := R_S) (T := T_S) (N := 9) hx hb hts i_S hown hK hP 2 rfl rfl 3 (by decide) (hts _ w1_92) (fun _ h9 => h9) rfl d_S_mayTake_16 ?_
    refine lv_iload_n hx hb d_S_mayTake_19 rfl (lv_at hl 3 rfl) ?_
    refine gp_ald (f := (F 11)) (n := 6) hx hb hK hP 14 rfl (t) rfl (by omega) (by decide) d_S_mayTake_20 ?_
    refine lv_aload_n hx hb d_S_mayTake_21 rfl (lv_at hl 0 rfl) ?_
    refine va_get (D := E.1) (cl := gp_cl) (ci := 2) (v := .ref (E.2.2.2 15)) (C := R_S) (T := T_S) (N := 9) hx hb hts i_S hown hK hP 2 rfl rfl 4 (by decide) (hts _ w1_93) (fun _ h9 => h9) rfl d_S_mayTake_22 ?_
    refine lv_iload_n hx hb d_S_mayTake_25 rfl (lv_at hl 2 rfl) ?_
    refine gp_ald (f := (F 12)) (n := 4) hx hb hK hP 15 rfl (p) rfl (by omega) (by decide) d_S_mayTake_26 ?_
    refine lv_iand hx hb d_S_mayTake_27 ?_
    refine lv_if_ne (tgt := 54) hx hb d_S_mayTake_28 (by decide) (fun c28 => ?_) (fun c28 => ?_)
    · have c28 := c28
      refine lv_iconst (v := 0) hx hb d_S_mayTake_54 (by decide) ?_
      exact gp_rz hx hb hr hlocks (rfl) (by simp [gp_may, c12, c28]) d_S_mayTake_55
    · have c28 := c28
      refine lv_aload_n hx hb d_S_mayTake_31 rfl (lv_at hl 0 rfl) ?_
      refine va_get (D := E.1) (cl := gp_cl) (ci := 2) (v := .ref (E.2.2.2 16)) (C := R_S) (T := T_S) (N := 9) hx hb hts i_S hown hK hP 2 rfl rfl 5 (by decide) (hts _ w1_94) (fun _ h9 => h9) rfl d_S_mayTake_32 ?_
      refine lv_iload_n hx hb d_S_mayTake_35 rfl (lv_at hl 2 rfl) ?_
      refine gp_ald (f := (F 13)) (n := 4) hx hb hK hP 16 rfl (p) rfl (by omega) (by decide) d_S_mayTake_36 ?_
      refine lv_aload_n hx hb d_S_mayTake_37 rfl (lv_at hl 1 rfl) ?_
      refine lv_iload_n hx hb d_S_mayTake_38 rfl (lv_at hl 3 rfl) ?_
      refine gp_cR (q0 := 1) (ci := 1) (As := [.int (nI t)]) (rest := [.int ((F 13) (p))]) ⟨hx, hb, hml, hown, hts⟩ (c_D_lengthOf l E I F nt t hT hnt ht) (k_S_98 hts ⟨by decide, by decide⟩ rfl rfl) hK hP rfl rfl rfl hl.1 rfl (Nat.le_of_ble_eq_true rfl) d_S_mayTake_39 ⟨Nat.le_of_ble_eq_true rfl, Nat.le_of_ble_eq_true rfl⟩ ?_
      refine lv_iadd hx hb d_S_mayTake_42 ?_
      refine lv_aload_n hx hb d_S_mayTake_43 rfl (lv_at hl 1 rfl) ?_
      refine va_get (D := E.1) (cl := gp_cl) (ci := 1) (v := .int (I 8)) (C := R_D) (T := T_D) (N := 13) hx hb hts i_D hown hK hP 1 rfl rfl 12 (by decide) (hts _ w1_51) (fun _ h9 => h9) rfl d_S_mayTake_44 ?_
      refine lv_icmp_gt (tgt := 54) hx hb d_S_mayTake_47 (by decide) (fun c47 => ?_) (fun c47 => ?_)
      · have c47 := c47
        have mc47 : ¬ (((F 13) (p)) + (F 6 t - F 5 t)) ≤ (I 8) := Int32.not_le.mpr c47
        refine lv_iconst (v := 0) hx hb d_S_mayTake_54 (by decide) ?_
        exact gp_rz hx hb hr hlocks (rfl) (by simp [gp_may, c12, c28, c47, mc47]) d_S_mayTake_55
      · have c47 := c47
        have mc47 : (((F 13) (p)) + (F 6 t - F 5 t)) ≤ (I 8) := Int32.not_lt.mp c47
        refine lv_iconst (v := 1) hx hb d_S_mayTake_50 (by decide) ?_
        refine lv_goto (tgt := 55) hx hb d_S_mayTake_51 (by decide) ?_
        exact gp_rz hx hb hr hlocks (rfl) (by simp [gp_may, c12, c28, c47, mc47]) d_S_mayTake_55
set_option maxHeartbeats 4000000 in
set_option maxRecDepth 100000 in
theorem c_S_weightOf (l : Launch) (E : gp_E) (I : Nat → Int32) (F : Nat → Nat → Int32) (f d a : Int32)  : gp_CR l y_S_weightOf b_S_weightOf 5 (some .int) 1 E (gp_wG E I F) [.ref (E.2.2.2 2), .int f, .int d, .int a] (gp_wt I f d a) := by
  refine gp_ofR (by decide) (Nat.le_of_ble_eq_true rfl) ?_
  intro xp xe xs xm below meth xc ls hx hb hr hts hown hlocks hml hP hK hl
  have hown : xs.vm.findClass "GuidePlans$Search" = some xm.cls := hown
  have hl : lv_has ls 5 [(0, .ref (E.2.2.2 2)), (1, .int f), (2, .int d), (3, .int a)] := hl
  refine lv_aload_n hx hb d_S_weightOf_0 rfl (lv_at hl 0 rfl) ?_
  refine va_get (D := E.1) (cl := gp_cl) (ci := 2) (v := .int (I 10)) (C := R_S) (T := T_S) (N := 9) hx hb hts i_S hown hK hP 2 rfl rfl 7 (by decide) (hts _ w1_96) (fun _ h9 => h9) rfl d_S_weightOf_1 ?_
  refine lv_iload_n hx hb d_S_weightOf_4 rfl (lv_at hl 3 rfl) ?_
  refine lv_imul hx hb d_S_weightOf_5 ?_
  refine lv_istore (lv' := [(4, .int ((I 10) * a)), (0, .ref (E.2.2.2 2)), (1, .int f), (2, .int d), (3, .int a)]) hx hb d_S_weightOf_6 hl (by decide) rfl (fun ls hl => ?_)
  refine lv_iload_n hx hb d_S_weightOf_8 rfl (lv_at hl 2 rfl) ?_
  refine lv_iload_n hx hb d_S_weightOf_9 rfl (lv_at hl 3 rfl) ?_
  refine lv_icmp_ne (tgt := 18) hx hb d_S_weightOf_10 (by decide) (fun c10 => ?_) (fun c10 => ?_)
  · have c10 := c10
    refine lv_iload hx hb d_S_weightOf_18 (lv_at hl 0 rfl) ?_
    refine lv_aload_n hx hb d_S_weightOf_20 rfl (lv_at hl 1 rfl) ?_
    refine va_get (D := E.1) (cl := gp_cl) (ci := 2) (v := .int (I 9)) (C := R_S) (T := T_S) (N := 9) hx hb hts i_S hown hK hP 2 rfl rfl 6 (by decide) (hts _ w1_95) (fun _ h9 => h9) rfl d_S_weightOf_21 ?_
    refine lv_iadd hx hb d_S_weightOf_24 ?_
    exact gp_ri hx hb hr hlocks (by simp [gp_wt, c10]) d_S_weightOf_25
  · have c10 := c10
    refine lv_iload hx hb d_S_weightOf_13 (lv_at hl 0 rfl) ?_
    refine lv_goto (tgt := 25) hx hb d_S_weightOf_15 (by decide) ?_
    exact gp_ri hx hb hr hlocks (by simp [gp_wt, c10]) d_S_weightOf_25
end
section
set_option maxHeartbeats 4000000 in
set_option maxRecDepth 100000 in
theorem c_S_keepTrial (l : Launch) (E : gp_E) (I : Nat → Int32) (F : Nat → Nat → Int32) (nt : Nat) (sc : Int32) (hnt : nt ≤ 6) : gp_CW l y_S_keepTrial b_S_keepTrial 4 none 1 E (gp_wG E I F) (gp_wG E (gp_kt nt sc (I, F)).1 (gp_kt nt sc (I, F)).2) [.ref (E.2.2.2 2), .int (nI nt), .int sc] none := by
  refine gp_ofW (by decide) (Nat.le_of_ble_eq_true rfl) ?_
  intro xp xe xs xm below meth xc ls A hx hb hr hts hown hlocks hml hP hK hD hA hAe hl
  have hS : va_S A xs.heap xs.heap [] := va_S.rf
  have hown : xs.vm.findClass "GuidePlans$Search" = some xm.cls := hown
  have hl : lv_has ls 4 [(0, .ref (E.2.2.2 2)), (1, .int (nI nt)), (2, .int sc)] := hl
  refine lv_iconst (v := 0) hx hb d_S_keepTrial_0 (by decide) ?_
  refine lv_istore_n (lv' := [(3, .int 0), (0, .ref (E.2.2.2 2)), (1, .int (nI nt)), (2, .int sc)]) hx hb d_S_keepTrial_1 rfl hl (by decide) rfl (fun ls hl => ?_)
  have L2 : ∀ (n : Nat) (t : Nat), t ≤ nt → nt + 1 ≤ t + n → ∀ (ls : Array Slot) (H : Heap) (locs : List Loc), lv_has ls 4 [(3, .int (nI t)), (0, .ref (E.2.2.2 2)), (1, .int (nI nt)), (2, .int sc)] → va_P E.1 gp_cl (gp_wG E I (gp_uF F 8 (fun j => if j < t then F 9 j else F 8 j))) H → va_D A (gp_wG E I (gp_uF F 8 (fun j => if j < t then F 9 j else F 8 j))) → va_S A xs.heap H locs → W xp l xe (gp_rm 1 0 0) xs xm ([.ref (E.2.2.2 2), .int (nI nt), .int sc] : List Value).toArray below meth xc H locs 0 0 (MQ below (gp_QW E none (gp_wG E I F) (gp_wG E (gp_kt nt sc (I, F)).1 (gp_kt nt sc (I, F)).2) xs.heap.size) ([.ref (E.2.2.2 2), .int (nI nt), .int sc] : List Value).toArray xs 0 0 A) (F0 xm 2 ls []) := by
    intro n
    induction n with
    | zero =>
      intro t h1 hm
      exact absurd hm (by omega)
    | succ n ih2 =>
      intro t h1 hm ls H locs hl hP hD hS
      refine lv_iload_n hx hb d_S_keepTrial_2 rfl (lv_at hl 0 rfl) ?_
      refine lv_iload_n hx hb d_S_keepTrial_3 rfl (lv_at hl 2 rfl) ?_
      refine lv_icmp_ge (tgt := 25) hx hb d_S_keepTrial_4 (by decide) (fun c4 => ?_) (fun c4 => ?_)
      · have c4 := c4
        have nc4 : nt ≤ t := (nI_leI (a := nt) (b := t) (by omega) (by omega)).mp c4
        have hte : nt = t := by omega
        subst hte
        refine lv_aload_n hx hb d_S_keepTrial_25 rfl (lv_at hl 1 rfl) ?_
        refine lv_iload_n hx hb d_S_keepTrial_26 rfl (lv_at hl 3 rfl) ?_
        refine va_put (D := E.1) (cl := gp_cl) (ci := 2) (v := .int sc) (ty := .int) (C := R_S) (T := T_S) (N := 9) hx hb hts i_S t_S t_S_ok n_S hown hK hP hD hS 2 rfl rfl 8 (by decide) (hts _ w1_97) (fun _ h9 => h9) rfl (by decide +kernel) rfl rfl (Nat.le_of_ble_eq_true rfl) d_S_keepTrial_27 (fun H locs hP hD hS => ?_)
        have hP : va_P E.1 gp_cl (gp_wG E (upd I 11 sc) (gp_uF F 8 (fun j => if j < nt then F 9 j else F 8 j))) H := hP
        have hD : va_D A (gp_wG E (upd I 11 sc) (gp_uF F 8 (fun j => if j < nt then F 9 j else F 8 j))) := hD
        exact gp_wv hx hb hr hlocks hAe rfl (hP) hS d_S_keepTrial_30
      · have c4 := c4
        have nc4 : ¬ nt ≤ t := fun h => c4 ((nI_leI (a := nt) (b := t) (by omega) (by omega)).mpr h)
        refine lv_aload_n hx hb d_S_keepTrial_7 rfl (lv_at hl 1 rfl) ?_
        refine va_get (D := E.1) (cl := gp_cl) (ci := 2) (v := .ref (E.2.2.2 11)) (C := R_S) (T := T_S) (N := 9) hx hb hts i_S hown hK hP 2 rfl rfl 0 (by decide) (hts _ w1_88) (fun _ h9 => h9) rfl d_S_keepTrial_8 ?_
        refine lv_iload_n hx hb d_S_keepTrial_11 rfl (lv_at hl 0 rfl) ?_
        refine lv_aload_n hx hb d_S_keepTrial_12 rfl (lv_at hl 1 rfl) ?_
        refine va_get (D := E.1) (cl := gp_cl) (ci := 2) (v := .ref (E.2.2.2 12)) (C := R_S) (T := T_S) (N := 9) hx hb hts i_S hown hK hP 2 rfl rfl 1 (by decide) (hts _ w1_90) (fun _ h9 => h9) rfl d_S_keepTrial_13 ?_
        refine lv_iload_n hx hb d_S_keepTrial_16 rfl (lv_at hl 0 rfl) ?_
        refine gp_ald (f := (F 9)) (n := 6) hx hb hK hP 12 rfl (t) rfl (by omega) (by decide) d_S_keepTrial_17 ?_
        refine gp_ast (f := (fun j => if j < t then F 9 j else F 8 j)) (n := 6) hx hb hK hP hD hS 11 rfl (t) rfl (by omega) (by decide) d_S_keepTrial_18 (fun H locs hP hD hS => ?_)
        have hP : va_P E.1 gp_cl (gp_wG E I (gp_uF (gp_uF F 8 (fun j => if j < t then F 9 j else F 8 j)) 8 (upd (fun j => if j < t then F 9 j else F 8 j) (t) ((F 9) (t))))) H := hP
        have hD : va_D A (gp_wG E I (gp_uF (gp_uF F 8 (fun j => if j < t then F 9 j else F 8 j)) 8 (upd (fun j => if j < t then F 9 j else F 8 j) (t) ((F 9) (t))))) := hD
        refine lv_iinc (v := (nI (t + 1))) (lv' := [(3, .int (nI (t + 1))), (0, .ref (E.2.2.2 2)), (1, .int (nI nt)), (2, .int sc)]) hx hb d_S_keepTrial_19 hl (k := 0) rfl (nI_1 _) (by decide) rfl (fun ls hl => ?_)
        refine lv_goto (tgt := 2) hx hb d_S_keepTrial_22 (by decide) ?_
        have hF : gp_uF (gp_uF F 8 (fun j => if j < t then F 9 j else F 8 j)) 8 (upd (fun j => if j < t then F 9 j else F 8 j) t (F 9 t)) = gp_uF F 8 (fun j => if j < t + 1 then F 9 j else F 8 j) := gp_F1 (gp_up1 (h := F 9) rfl) (fun c hc => (gp_uF_ne hc).trans (gp_uF_ne hc))
        rw [hF] at hP
        exact ih2 (t + 1) (by omega) (by omega) ls _ _ (lv_sub hl [0, 1, 2, 3] rfl) (hP) (gp_dd hD rfl) hS
  exact L2 (nt + 1) 0 (Nat.zero_le _) (by omega) ls _ _ (lv_sub hl [0, 1, 2, 3] rfl) (by rw [gp_cp0 (g := F 9)]; exact hP) (gp_dd hD rfl) hS
set_option maxHeartbeats 4000000 in
set_option maxRecDepth 100000 in
theorem c_S_placePerson (l : Launch) (E : gp_E) (rec : Int32 → gp_S → gp_S) (LL np nt t : Nat) (hLL : 4 ≤ LL) (hnp : np ≤ 4) (hnt : nt ≤ 6) (ht : t < nt) (hkp : ∀ sc σ, gp_kp σ (rec sc σ))
    (hrec : ∀ (I : Nat → Int32) (F : Nat → Nat → Int32) (sc : Int32), I 4 = nI np → I 6 = nI nt → gp_CW l y_S_place b_S_place 6 none LL E (gp_wG E I F) (gp_wG E (rec sc (I, F)).1 (rec sc (I, F)).2) [.ref (E.2.2.2 2), .ref (E.2.2.2 1), .ref (E.2.2.2 17), .int (nI (t + 1)), .int sc] none)
    (I : Nat → Int32) (F : Nat → Nat → Int32) (sc : Int32) (p : Nat) (hp : p < np) (hp4 : I 4 = nI np) (hT : I 6 = nI nt) :
    gp_CW l y_S_placePerson b_S_placePerson 8 none (LL + 1) E (gp_wG E I F) (gp_wG E (gp_pp rec t p sc (I, F)).1 (gp_pp rec t p sc (I, F)).2) [.ref (E.2.2.2 2), .ref (E.2.2.2 1), .ref (E.2.2.2 17), .int (nI t), .int sc, .int (nI p)] none := by
  refine gp_ofW (by decide) (Nat.le_of_ble_eq_true rfl) ?_
  intro xp xe xs xm below meth xc ls A hx hb hr hts hown hlocks hml hP hK hD hA hAe hl
  have hS : va_S A xs.heap xs.heap [] := va_S.rf
  have hown : xs.vm.findClass "GuidePlans$Search" = some xm.cls := hown
  have hl : lv_has ls 8 [(0, .ref (E.2.2.2 2)), (1, .ref (E.2.2.2 1)), (2, .ref (E.2.2.2 17)), (3, .int (nI t)), (4, .int sc), (5, .int (nI p))] := hl
  refine lv_aload_n hx hb d_S_placePerson_0 rfl (lv_at hl 0 rfl) ?_
  refine va_get (D := E.1) (cl := gp_cl) (ci := 2) (v := .ref (E.2.2.2 15)) (C := R_S) (T := T_S) (N := 9) hx hb hts i_S hown hK hP 2 rfl rfl 4 (by decide) (hts _ w1_93) (fun _ h9 => h9) rfl d_S_placePerson_1 ?_
  refine lv_iload hx hb d_S_placePerson_4 (lv_at hl 5 rfl) ?_
  refine gp_ald (f := (F 12)) (n := 4) hx hb hK hP 15 rfl (p) rfl (by omega) (by decide) d_S_placePerson_6 ?_
  refine gp_cS (As := [.int ((F 12) (p))]) (rest := []) ⟨hx, hb, hml, hown, hts⟩ (c_J_bitCount l E I F (F 12 p)) (k_S_104 hts ⟨by dsimp only [gp_rm]; omega, by dsimp only [gp_rm]; omega⟩ rfl rfl) hK hP rfl hl.1 rfl (Nat.le_of_ble_eq_true rfl) d_S_placePerson_7 ⟨Nat.le_of_ble_eq_true rfl, Nat.le_of_ble_eq_true rfl⟩ ?_
  refine lv_istore (lv' := [(6, .int (gp_pop (F 12 p))), (0, .ref (E.2.2.2 2)), (1, .ref (E.2.2.2 1)), (2, .ref (E.2.2.2 17)), (3, .int (nI t)), (4, .int sc), (5, .int (nI p))]) hx hb d_S_placePerson_10 hl (by decide) rfl (fun ls hl => ?_)
  refine lv_iconst (v := 2) hx hb d_S_placePerson_12 (by decide) ?_
  refine lv_iload hx hb d_S_placePerson_13 (lv_at hl 0 rfl) ?_
  refine lv_imul hx hb d_S_placePerson_15 ?_
  refine lv_iconst (v := 1) hx hb d_S_placePerson_16 (by decide) ?_
  refine lv_iadd hx hb d_S_placePerson_17 ?_
  refine lv_istore (lv' := [(7, .int ((2 * (gp_pop (F 12 p))) + 1)), (6, .int (gp_pop (F 12 p))), (0, .ref (E.2.2.2 2)), (1, .ref (E.2.2.2 1)), (2, .ref (E.2.2.2 17)), (3, .int (nI t)), (4, .int sc), (5, .int (nI p))]) hx hb d_S_placePerson_18 hl (by decide) rfl (fun ls hl => ?_)
  refine lv_aload_n hx hb d_S_placePerson_20 rfl (lv_at hl 2 rfl) ?_
  refine va_get (D := E.1) (cl := gp_cl) (ci := 2) (v := .ref (E.2.2.2 12)) (C := R_S) (T := T_S) (N := 9) hx hb hts i_S hown hK hP 2 rfl rfl 1 (by decide) (hts _ w1_90) (fun _ h9 => h9) rfl d_S_placePerson_21 ?_
  refine lv_iload_n hx hb d_S_placePerson_24 rfl (lv_at hl 5 rfl) ?_
  refine lv_iload hx hb d_S_placePerson_25 (lv_at hl 7 rfl) ?_
  refine gp_ast (f := (F 9)) (n := 6) hx hb hK hP hD hS 12 rfl (t) rfl (by omega) (by decide) d_S_placePerson_27 (fun H locs hP hD hS => ?_)
  have hP : va_P E.1 gp_cl (gp_wG E I (gp_uF F 9 (upd (F 9) (t) (nI p)))) H := hP
  have hD : va_D A (gp_wG E I (gp_uF F 9 (upd (F 9) (t) (nI p)))) := hD
  refine lv_aload_n hx hb d_S_placePerson_28 rfl (lv_at hl 2 rfl) ?_
  refine va_get (D := E.1) (cl := gp_cl) (ci := 2) (v := .ref (E.2.2.2 15)) (C := R_S) (T := T_S) (N := 9) hx hb hts i_S hown hK hP 2 rfl rfl 4 (by decide) (hts _ w1_93) (fun _ h9 => h9) rfl d_S_placePerson_29 ?_
  refine lv_iload hx hb d_S_placePerson_32 (lv_at hl 7 rfl) ?_
  refine lv_dup2_11 hx hb d_S_placePerson_34 rfl rfl ?_
  refine gp_ald (f := (F 12)) (n := 4) hx hb hK hP 15 rfl (p) rfl (by omega) (by decide) d_S_placePerson_35 ?_
  refine lv_iconst (v := 1) hx hb d_S_placePerson_36 (by decide) ?_
  refine lv_iload_n hx hb d_S_placePerson_37 rfl (lv_at hl 5 rfl) ?_
  refine lv_ishl hx hb d_S_placePerson_38 ?_
  refine lv_ior hx hb d_S_placePerson_39 ?_
  refine gp_ast (f := (F 12)) (n := 4) hx hb hK hP hD hS 15 rfl (p) rfl (by omega) (by decide) d_S_placePerson_40 (fun H locs hP hD hS => ?_)
  have hP : va_P E.1 gp_cl (gp_wG E I (gp_uF (gp_uF F 9 (upd (F 9) (t) (nI p))) 12 (upd (F 12) (p) (((F 12) (p)) ||| (1 <<< ((nI t) &&& 31)))))) H := hP
  have hD : va_D A (gp_wG E I (gp_uF (gp_uF F 9 (upd (F 9) (t) (nI p))) 12 (upd (F 12) (p) (((F 12) (p)) ||| (1 <<< ((nI t) &&& 31)))))) := hD
  refine lv_aload_n hx hb d_S_placePerson_41 rfl (lv_at hl 2 rfl) ?_
  refine va_get (D := E.1) (cl := gp_cl) (ci := 2) (v := .ref (E.2.2.2 16)) (C := R_S) (T := T_S) (N := 9) hx hb hts i_S hown hK hP 2 rfl rfl 5 (by decide) (hts _ w1_94) (fun _ h9 => h9) rfl d_S_placePerson_42 ?_
  refine lv_iload hx hb d_S_placePerson_45 (lv_at hl 7 rfl) ?_
  refine lv_dup2_11 hx hb d_S_placePerson_47 rfl rfl ?_
  refine gp_ald (f := (F 13)) (n := 4) hx hb hK hP 16 rfl (p) rfl (by omega) (by decide) d_S_placePerson_48 ?_
  refine lv_aload_n hx hb d_S_placePerson_49 rfl (lv_at hl 3 rfl) ?_
  refine lv_iload_n hx hb d_S_placePerson_50 rfl (lv_at hl 5 rfl) ?_
  refine gp_cR (q0 := 1) (ci := 1) (As := [.int (nI t)]) (rest := [.int ((F 13) (p)), .int (nI p), .ref (E.2.2.2 16)]) ⟨hx, hb, hml, hown, hts⟩ (show gp_CR _ _ _ _ _ _ _ _ _ (F 6 t - F 5 t) from c_D_lengthOf l E I (gp_uF (gp_uF F 9 (upd (F 9) (t) (nI p))) 12 (upd (F 12) (p) (((F 12) (p)) ||| (1 <<< ((nI t) &&& 31))))) nt t hT hnt ht) (k_S_98 hts ⟨by dsimp only [gp_rm]; omega, by dsimp only [gp_rm]; omega⟩ rfl rfl) hK hP rfl rfl rfl hl.1 rfl (Nat.le_of_ble_eq_true rfl) d_S_placePerson_51 ⟨Nat.le_of_ble_eq_true rfl, Nat.le_of_ble_eq_true rfl⟩ ?_
  refine lv_iadd hx hb d_S_placePerson_54 ?_
  refine gp_ast (f := (F 13)) (n := 4) hx hb hK hP hD hS 16 rfl (p) rfl (by omega) (by decide) d_S_placePerson_55 (fun H locs hP hD hS => ?_)
  have hP : va_P E.1 gp_cl (gp_wG E I (gp_uF (gp_uF (gp_uF F 9 (upd (F 9) (t) (nI p))) 12 (upd (F 12) (p) (((F 12) (p)) ||| (1 <<< ((nI t) &&& 31))))) 13 (upd (F 13) (p) (((F 13) (p)) + (F 6 t - F 5 t))))) H := hP
  have hD : va_D A (gp_wG E I (gp_uF (gp_uF (gp_uF F 9 (upd (F 9) (t) (nI p))) 12 (upd (F 12) (p) (((F 12) (p)) ||| (1 <<< ((nI t) &&& 31))))) 13 (upd (F 13) (p) (((F 13) (p)) + (F 6 t - F 5 t))))) := hD
  refine lv_aload_n hx hb d_S_placePerson_56 rfl (lv_at hl 2 rfl) ?_
  refine lv_aload_n hx hb d_S_placePerson_57 rfl (lv_at hl 3 rfl) ?_
  refine lv_aload_n hx hb d_S_placePerson_58 rfl (lv_at hl 4 rfl) ?_
  refine lv_iload_n hx hb d_S_placePerson_59 rfl (lv_at hl 5 rfl) ?_
  refine lv_iconst (v := 1) hx hb d_S_placePerson_60 (by decide) ?_
  refine lv_iadd hx hb d_S_placePerson_61 ?_
  rw [show ((nI t) + 1) = (nI (t + 1)) from nI_1 _]
  refine lv_iload hx hb d_S_placePerson_62 (lv_at hl 6 rfl) ?_
  refine lv_aload_n hx hb d_S_placePerson_64 rfl (lv_at hl 2 rfl) ?_
  refine lv_aload_n hx hb d_S_placePerson_65 rfl (lv_at hl 4 rfl) ?_
  refine lv_iload_n hx hb d_S_placePerson_66 rfl (lv_at hl 5 rfl) ?_
  refine gp_ald (f := (F 14)) (n := 6) hx hb hK hP 17 rfl (t) rfl (by omega) (by decide) d_S_placePerson_67 ?_
  refine lv_iload hx hb d_S_placePerson_68 (lv_at hl 7 rfl) ?_
  refine lv_iload hx hb d_S_placePerson_70 (lv_at hl 0 rfl) ?_
  refine gp_cR (q0 := 2) (ci := 2) (As := [.int ((F 14) (t)), .int (nI p), .int ((2 * (gp_pop (F 12 p))) + 1)]) (rest := [.int sc, .int (nI (t + 1)), .ref (E.2.2.2 17), .ref (E.2.2.2 1), .ref (E.2.2.2 2)]) ⟨hx, hb, hml, hown, hts⟩ (c_S_weightOf l E I (gp_uF (gp_uF (gp_uF F 9 (upd (F 9) (t) (nI p))) 12 (upd (F 12) (p) (((F 12) (p)) ||| (1 <<< ((nI t) &&& 31))))) 13 (upd (F 13) (p) (((F 13) (p)) + (F 6 t - F 5 t)))) (F 14 t) (nI p) (2 * gp_pop (F 12 p) + 1)) (k_S_94 hts ⟨by dsimp only [gp_rm]; omega, by dsimp only [gp_rm]; omega⟩ rfl rfl) hK hP rfl rfl rfl hl.1 rfl (Nat.le_of_ble_eq_true rfl) d_S_placePerson_72 ⟨Nat.le_of_ble_eq_true rfl, Nat.le_of_ble_eq_true rfl⟩ ?_
  refine lv_iadd hx hb d_S_placePerson_75 ?_
  refine gp_cW (q0 := 2) (ci := 2) (As := [.ref (E.2.2.2 1), .ref (E.2.2.2 17), .int (nI (t + 1)), .int (sc + (gp_wt I (F 14 t) (nI p) (2 * gp_pop (F 12 p) + 1)))]) (rest := []) ⟨hx, hb, hml, hown, hts⟩ (hrec I (gp_uF (gp_uF (gp_uF F 9 (upd (F 9) (t) (nI p))) 12 (upd (F 12) (p) (((F 12) (p)) ||| (1 <<< ((nI t) &&& 31))))) 13 (upd (F 13) (p) (((F 13) (p)) + (F 6 t - F 5 t)))) (sc + gp_wt I (F 14 t) (nI p) (2 * gp_pop (F 12 p) + 1)) hp4 hT) (k_S_68 hts ⟨by dsimp only [gp_rm]; omega, by dsimp only [gp_rm]; omega⟩ rfl rfl) hK hP hD hS hA rfl rfl rfl rfl hl.1 rfl (Nat.le_of_ble_eq_true rfl) d_S_placePerson_76 ⟨Nat.le_of_ble_eq_true rfl, Nat.le_of_ble_eq_true rfl⟩ (fun H locs hP hD hS => ?_)
  have hP : va_P E.1 gp_cl (gp_wG E (rec (sc + gp_wt I (F 14 t) (nI p) (2 * gp_pop (F 12 p) + 1)) (I, (gp_uF (gp_uF (gp_uF F 9 (upd (F 9) (t) (nI p))) 12 (upd (F 12) (p) (((F 12) (p)) ||| (1 <<< ((nI t) &&& 31))))) 13 (upd (F 13) (p) (((F 13) (p)) + (F 6 t - F 5 t)))))).1 (rec (sc + gp_wt I (F 14 t) (nI p) (2 * gp_pop (F 12 p) + 1)) (I, (gp_uF (gp_uF (gp_uF F 9 (upd (F 9) (t) (nI p))) 12 (upd (F 12) (p) (((F 12) (p)) ||| (1 <<< ((nI t) &&& 31))))) 13 (upd (F 13) (p) (((F 13) (p)) + (F 6 t - F 5 t)))))).2) H := hP
  have hD : va_D A (gp_wG E (rec (sc + gp_wt I (F 14 t) (nI p) (2 * gp_pop (F 12 p) + 1)) (I, (gp_uF (gp_uF (gp_uF F 9 (upd (F 9) (t) (nI p))) 12 (upd (F 12) (p) (((F 12) (p)) ||| (1 <<< ((nI t) &&& 31))))) 13 (upd (F 13) (p) (((F 13) (p)) + (F 6 t - F 5 t)))))).1 (rec (sc + gp_wt I (F 14 t) (nI p) (2 * gp_pop (F 12 p) + 1)) (I, (gp_uF (gp_uF (gp_uF F 9 (upd (F 9) (t) (nI p))) 12 (upd (F 12) (p) (((F 12) (p)) ||| (1 <<< ((nI t) &&& 31))))) 13 (upd (F 13) (p) (((F 13) (p)) + (F 6 t - F 5 t)))))).2) := hD
  generalize hτ : rec (sc + gp_wt I (F 14 t) (nI p) (2 * gp_pop (F 12 p) + 1)) (I, gp_uF (gp_uF (gp_uF F 9 (upd (F 9) t (nI p))) 12 (upd (F 12) p (F 12 p ||| (1 <<< (nI t &&& 31))))) 13 (upd (F 13) p (F 13 p + (F 6 t - F 5 t)))) = τ at hP hD
  have hT2 : τ.1 6 = nI nt := by rw [← hτ]; exact ((hkp _ _).1 6 (by decide)).trans hT
  refine lv_aload_n hx hb d_S_placePerson_79 rfl (lv_at hl 2 rfl) ?_
  refine va_get (D := E.1) (cl := gp_cl) (ci := 2) (v := .ref (E.2.2.2 15)) (C := R_S) (T := T_S) (N := 9) hx hb hts i_S hown hK hP 2 rfl rfl 4 (by decide) (hts _ w1_93) (fun _ h9 => h9) rfl d_S_placePerson_80 ?_
  refine lv_iload hx hb d_S_placePerson_83 (lv_at hl 7 rfl) ?_
  refine lv_dup2_11 hx hb d_S_placePerson_85 rfl rfl ?_
  refine gp_ald (f := (τ.2 12)) (n := 4) hx hb hK hP 15 rfl (p) rfl (by omega) (by decide) d_S_placePerson_86 ?_
  refine lv_iconst (v := 1) hx hb d_S_placePerson_87 (by decide) ?_
  refine lv_iload_n hx hb d_S_placePerson_88 rfl (lv_at hl 5 rfl) ?_
  refine lv_ishl hx hb d_S_placePerson_89 ?_
  refine lv_iconst (v := (-1)) hx hb d_S_placePerson_90 (by decide) ?_
  refine lv_ixor hx hb d_S_placePerson_91 ?_
  refine lv_iand hx hb d_S_placePerson_92 ?_
  refine gp_ast (f := (τ.2 12)) (n := 4) hx hb hK hP hD hS 15 rfl (p) rfl (by omega) (by decide) d_S_placePerson_93 (fun H locs hP hD hS => ?_)
  have hP : va_P E.1 gp_cl (gp_wG E τ.1 (gp_uF τ.2 12 (upd (τ.2 12) (p) (((τ.2 12) (p)) &&& ((1 <<< ((nI t) &&& 31)) ^^^ (-1)))))) H := hP
  have hD : va_D A (gp_wG E τ.1 (gp_uF τ.2 12 (upd (τ.2 12) (p) (((τ.2 12) (p)) &&& ((1 <<< ((nI t) &&& 31)) ^^^ (-1)))))) := hD
  refine lv_aload_n hx hb d_S_placePerson_94 rfl (lv_at hl 2 rfl) ?_
  refine va_get (D := E.1) (cl := gp_cl) (ci := 2) (v := .ref (E.2.2.2 16)) (C := R_S) (T := T_S) (N := 9) hx hb hts i_S hown hK hP 2 rfl rfl 5 (by decide) (hts _ w1_94) (fun _ h9 => h9) rfl d_S_placePerson_95 ?_
  refine lv_iload hx hb d_S_placePerson_98 (lv_at hl 7 rfl) ?_
  refine lv_dup2_11 hx hb d_S_placePerson_100 rfl rfl ?_
  refine gp_ald (f := (τ.2 13)) (n := 4) hx hb hK hP 16 rfl (p) rfl (by omega) (by decide) d_S_placePerson_101 ?_
  refine lv_aload_n hx hb d_S_placePerson_102 rfl (lv_at hl 3 rfl) ?_
  refine lv_iload_n hx hb d_S_placePerson_103 rfl (lv_at hl 5 rfl) ?_
  refine gp_cR (q0 := 1) (ci := 1) (As := [.int (nI t)]) (rest := [.int ((τ.2 13) (p)), .int (nI p), .ref (E.2.2.2 16)]) ⟨hx, hb, hml, hown, hts⟩ (c_D_lengthOf l E τ.1 (gp_uF τ.2 12 (upd (τ.2 12) (p) (((τ.2 12) (p)) &&& ((1 <<< ((nI t) &&& 31)) ^^^ (-1))))) nt t hT2 hnt ht) (k_S_98 hts ⟨by dsimp only [gp_rm]; omega, by dsimp only [gp_rm]; omega⟩ rfl rfl) hK hP rfl rfl rfl hl.1 rfl (Nat.le_of_ble_eq_true rfl) d_S_placePerson_104 ⟨Nat.le_of_ble_eq_true rfl, Nat.le_of_ble_eq_true rfl⟩ ?_
  refine lv_isub hx hb d_S_placePerson_107 ?_
  refine gp_ast (f := (τ.2 13)) (n := 4) hx hb hK hP hD hS 16 rfl (p) rfl (by omega) (by decide) d_S_placePerson_108 (fun H locs hP hD hS => ?_)
  have hP : va_P E.1 gp_cl (gp_wG E τ.1 (gp_uF (gp_uF τ.2 12 (upd (τ.2 12) (p) (((τ.2 12) (p)) &&& ((1 <<< ((nI t) &&& 31)) ^^^ (-1))))) 13 (upd (τ.2 13) (p) (((τ.2 13) (p)) - ((gp_uF τ.2 12 (upd (τ.2 12) (p) (((τ.2 12) (p)) &&& ((1 <<< ((nI t) &&& 31)) ^^^ (-1))))) 6 t - (gp_uF τ.2 12 (upd (τ.2 12) (p) (((τ.2 12) (p)) &&& ((1 <<< ((nI t) &&& 31)) ^^^ (-1))))) 5 t))))) H := hP
  have hD : va_D A (gp_wG E τ.1 (gp_uF (gp_uF τ.2 12 (upd (τ.2 12) (p) (((τ.2 12) (p)) &&& ((1 <<< ((nI t) &&& 31)) ^^^ (-1))))) 13 (upd (τ.2 13) (p) (((τ.2 13) (p)) - ((gp_uF τ.2 12 (upd (τ.2 12) (p) (((τ.2 12) (p)) &&& ((1 <<< ((nI t) &&& 31)) ^^^ (-1))))) 6 t - (gp_uF τ.2 12 (upd (τ.2 12) (p) (((τ.2 12) (p)) &&& ((1 <<< ((nI t) &&& 31)) ^^^ (-1))))) 5 t))))) := hD
  exact gp_wv hx hb hr hlocks hAe rfl (by rw [show gp_pp rec t p sc (I, F) = (τ.1, gp_uF (gp_uF τ.2 12 (upd (τ.2 12) p (τ.2 12 p &&& ((1 <<< (nI t &&& 31)) ^^^ (-1))))) 13 (upd (τ.2 13) p (τ.2 13 p - (τ.2 6 t - τ.2 5 t)))) from by rw [← hτ]; rfl]; exact hP) hS d_S_placePerson_109
set_option maxHeartbeats 4000000 in
set_option maxRecDepth 100000 in
theorem c_S_place0 (l : Launch) (E : gp_E) (np nt : Nat) (hnp : np ≤ 4) (hnt : nt ≤ 6)
    (I : Nat → Int32) (F : Nat → Nat → Int32) (sc : Int32) (hp4 : I 4 = nI np) (hT : I 6 = nI nt) :
    gp_CW l y_S_place b_S_place 6 none 4 E (gp_wG E I F) (gp_wG E (gp_pl np nt 0 sc (I, F)).1 (gp_pl np nt 0 sc (I, F)).2) [.ref (E.2.2.2 2), .ref (E.2.2.2 1), .ref (E.2.2.2 17), .int (nI nt), .int sc] none := by
  refine gp_ofW (by decide) (Nat.le_of_ble_eq_true rfl) ?_
  intro xp xe xs xm below meth xc ls A hx hb hr hts hown hlocks hml hP hK hD hA hAe hl
  have hS : va_S A xs.heap xs.heap [] := va_S.rf
  have hown : xs.vm.findClass "GuidePlans$Search" = some xm.cls := hown
  have hl : lv_has ls 6 [(0, .ref (E.2.2.2 2)), (1, .ref (E.2.2.2 1)), (2, .ref (E.2.2.2 17)), (3, .int (nI nt)), (4, .int sc)] := hl
  refine lv_iload hx hb d_S_place_0 (lv_at hl 4 rfl) ?_
  refine lv_aload_n hx hb d_S_place_2 rfl (lv_at hl 0 rfl) ?_
  refine va_get (D := E.1) (cl := gp_cl) (ci := 2) (v := .int (I 10)) (C := R_S) (T := T_S) (N := 9) hx hb hts i_S hown hK hP 2 rfl rfl 7 (by decide) (hts _ w1_96) (fun _ h9 => h9) rfl d_S_place_3 ?_
  refine lv_aload_n hx hb d_S_place_6 rfl (lv_at hl 1 rfl) ?_
  refine va_get (D := E.1) (cl := gp_cl) (ci := 1) (v := .int (nI nt)) (C := R_D) (T := T_D) (N := 13) hx hb hts i_D hown hK hP 1 rfl rfl 10 (by decide) (hts _ w1_45) (fun _ h9 => h9) (congrArg (fun z => some (Value.int z)) hT) d_S_place_7 ?_
  refine lv_iload_n hx hb d_S_place_10 rfl (lv_at hl 3 rfl) ?_
  refine lv_isub hx hb d_S_place_11 ?_
  refine lv_imul hx hb d_S_place_12 ?_
  refine lv_iadd hx hb d_S_place_13 ?_
  refine lv_aload_n hx hb d_S_place_14 rfl (lv_at hl 0 rfl) ?_
  refine va_get (D := E.1) (cl := gp_cl) (ci := 2) (v := .int (I 11)) (C := R_S) (T := T_S) (N := 9) hx hb hts i_S hown hK hP 2 rfl rfl 8 (by decide) (hts _ w1_97) (fun _ h9 => h9) rfl d_S_place_15 ?_
  refine lv_icmp_lt (tgt := 22) hx hb d_S_place_18 (by decide) (fun c18 => ?_) (fun c18 => ?_)
  · have c18 := c18
    have mc18 : ¬ (I 11) ≤ (sc + ((I 10) * ((nI nt) - (nI nt)))) := Int32.not_le.mpr c18
    refine lv_iload_n hx hb d_S_place_22 rfl (lv_at hl 3 rfl) ?_
    refine lv_aload_n hx hb d_S_place_23 rfl (lv_at hl 1 rfl) ?_
    refine va_get (D := E.1) (cl := gp_cl) (ci := 1) (v := .int (nI nt)) (C := R_D) (T := T_D) (N := 13) hx hb hts i_D hown hK hP 1 rfl rfl 10 (by decide) (hts _ w1_45) (fun _ h9 => h9) (congrArg (fun z => some (Value.int z)) hT) d_S_place_24 ?_
    refine lv_icmp_lt (tgt := 41) hx hb d_S_place_27 (by decide) (fun c27 => ?_) (fun c27 => ?_)
    · have c27 := c27
      have nc27 : nt < nt := (nI_ltI (a := nt) (b := nt) (by omega) (by omega)).mp c27
      exact False.elim (by omega)
    · have c27 := c27
      have nc27 : ¬ nt < nt := fun h => c27 ((nI_ltI (a := nt) (b := nt) (by omega) (by omega)).mpr h)
      refine lv_aload_n hx hb d_S_place_30 rfl (lv_at hl 0 rfl) ?_
      refine lv_aload_n hx hb d_S_place_31 rfl (lv_at hl 1 rfl) ?_
      refine va_get (D := E.1) (cl := gp_cl) (ci := 1) (v := .int (nI nt)) (C := R_D) (T := T_D) (N := 13) hx hb hts i_D hown hK hP 1 rfl rfl 10 (by decide) (hts _ w1_45) (fun _ h9 => h9) (congrArg (fun z => some (Value.int z)) hT) d_S_place_32 ?_
      refine lv_iload hx hb d_S_place_35 (lv_at hl 4 rfl) ?_
      refine gp_cW (q0 := 2) (ci := 2) (As := [.int (nI nt), .int sc]) (rest := []) ⟨hx, hb, hml, hown, hts⟩ (c_S_keepTrial l E I F nt sc hnt) (k_S_82 hts ⟨by decide, by decide⟩ rfl rfl) hK hP hD hS hA rfl rfl rfl rfl hl.1 rfl (Nat.le_of_ble_eq_true rfl) d_S_place_37 ⟨Nat.le_of_ble_eq_true rfl, Nat.le_of_ble_eq_true rfl⟩ (fun H locs hP hD hS => ?_)
      have hP : va_P E.1 gp_cl (gp_wG E (gp_kt nt sc (I, F)).1 (gp_kt nt sc (I, F)).2) H := hP
      have hD : va_D A (gp_wG E (gp_kt nt sc (I, F)).1 (gp_kt nt sc (I, F)).2) := hD
      exact gp_wv hx hb hr hlocks hAe rfl (by rw [show gp_pl np nt 0 sc (I, F) = gp_kt nt sc (I, F) from by rw [gp_pl]; exact if_pos c18]; exact hP) hS d_S_place_40
  · have c18 := c18
    have mc18 : (I 11) ≤ (sc + ((I 10) * ((nI nt) - (nI nt)))) := Int32.not_lt.mp c18
    exact gp_wv hx hb hr hlocks hAe rfl (by rw [show gp_pl np nt 0 sc (I, F) = (I, F) from by rw [gp_pl]; exact if_neg c18]; exact hP) hS d_S_place_21
set_option maxHeartbeats 4000000 in
set_option maxRecDepth 100000 in
theorem c_S_placeS (l : Launch) (E : gp_E) (rec : Int32 → gp_S → gp_S) (LL np nt t : Nat) (hLL : 4 ≤ LL) (hnp : np ≤ 4) (hnt : nt ≤ 6) (ht : t < nt) (hkp : ∀ sc σ, gp_kp σ (rec sc σ))
    (hrec : ∀ (I : Nat → Int32) (F : Nat → Nat → Int32) (sc : Int32), I 4 = nI np → I 6 = nI nt → gp_CW l y_S_place b_S_place 6 none LL E (gp_wG E I F) (gp_wG E (rec sc (I, F)).1 (rec sc (I, F)).2) [.ref (E.2.2.2 2), .ref (E.2.2.2 1), .ref (E.2.2.2 17), .int (nI (t + 1)), .int sc] none)
    (I : Nat → Int32) (F : Nat → Nat → Int32) (sc : Int32) (hp4 : I 4 = nI np) (hT : I 6 = nI nt) :
    gp_CW l y_S_place b_S_place 6 none (LL + 2) E (gp_wG E I F) (gp_wG E (if sc + I 10 * (nI nt - nI t) < I 11 then gp_st rec np t sc (I, F) else (I, F)).1 (if sc + I 10 * (nI nt - nI t) < I 11 then gp_st rec np t sc (I, F) else (I, F)).2) [.ref (E.2.2.2 2), .ref (E.2.2.2 1), .ref (E.2.2.2 17), .int (nI t), .int sc] none := by
  refine gp_ofW (by decide) (Nat.le_of_ble_eq_true rfl) ?_
  intro xp xe xs xm below meth xc ls A hx hb hr hts hown hlocks hml hP hK hD hA hAe hl
  have hS : va_S A xs.heap xs.heap [] := va_S.rf
  have hown : xs.vm.findClass "GuidePlans$Search" = some xm.cls := hown
  have hl : lv_has ls 6 [(0, .ref (E.2.2.2 2)), (1, .ref (E.2.2.2 1)), (2, .ref (E.2.2.2 17)), (3, .int (nI t)), (4, .int sc)] := hl
  refine lv_iload hx hb d_S_place_0 (lv_at hl 4 rfl) ?_
  refine lv_aload_n hx hb d_S_place_2 rfl (lv_at hl 0 rfl) ?_
  refine va_get (D := E.1) (cl := gp_cl) (ci := 2) (v := .int (I 10)) (C := R_S) (T := T_S) (N := 9) hx hb hts i_S hown hK hP 2 rfl rfl 7 (by decide) (hts _ w1_96) (fun _ h9 => h9) rfl d_S_place_3 ?_
  refine lv_aload_n hx hb d_S_place_6 rfl (lv_at hl 1 rfl) ?_
  refine va_get (D := E.1) (cl := gp_cl) (ci := 1) (v := .int (nI nt)) (C := R_D) (T := T_D) (N := 13) hx hb hts i_D hown hK hP 1 rfl rfl 10 (by decide) (hts _ w1_45) (fun _ h9 => h9) (congrArg (fun z => some (Value.int z)) hT) d_S_place_7 ?_
  refine lv_iload_n hx hb d_S_place_10 rfl (lv_at hl 3 rfl) ?_
  refine lv_isub hx hb d_S_place_11 ?_
  refine lv_imul hx hb d_S_place_12 ?_
  refine lv_iadd hx hb d_S_place_13 ?_
  refine lv_aload_n hx hb d_S_place_14 rfl (lv_at hl 0 rfl) ?_
  refine va_get (D := E.1) (cl := gp_cl) (ci := 2) (v := .int (I 11)) (C := R_S) (T := T_S) (N := 9) hx hb hts i_S hown hK hP 2 rfl rfl 8 (by decide) (hts _ w1_97) (fun _ h9 => h9) rfl d_S_place_15 ?_
  refine lv_icmp_lt (tgt := 22) hx hb d_S_place_18 (by decide) (fun c18 => ?_) (fun c18 => ?_)
  · have c18 := c18
    have mc18 : ¬ (I 11) ≤ (sc + ((I 10) * ((nI nt) - (nI t)))) := Int32.not_le.mpr c18
    refine lv_iload_n hx hb d_S_place_22 rfl (lv_at hl 3 rfl) ?_
    refine lv_aload_n hx hb d_S_place_23 rfl (lv_at hl 1 rfl) ?_
    refine va_get (D := E.1) (cl := gp_cl) (ci := 1) (v := .int (nI nt)) (C := R_D) (T := T_D) (N := 13) hx hb hts i_D hown hK hP 1 rfl rfl 10 (by decide) (hts _ w1_45) (fun _ h9 => h9) (congrArg (fun z => some (Value.int z)) hT) d_S_place_24 ?_
    refine lv_icmp_lt (tgt := 41) hx hb d_S_place_27 (by decide) (fun c27 => ?_) (fun c27 => ?_)
    · have c27 := c27
      have nc27 : t < nt := (nI_ltI (a := t) (b := nt) (by omega) (by omega)).mp c27
      refine lv_iconst (v := 0) hx hb d_S_place_41 (by decide) ?_
      refine lv_istore (lv' := [(5, .int 0), (0, .ref (E.2.2.2 2)), (1, .ref (E.2.2.2 1)), (2, .ref (E.2.2.2 17)), (3, .int (nI t)), (4, .int sc)]) hx hb d_S_place_42 hl (by decide) rfl (fun ls hl => ?_)
      have L44 : ∀ (n : Nat) (p : Nat), p ≤ np → np + 1 ≤ p + n → ∀ (ls : Array Slot) (H : Heap) (locs : List Loc), lv_has ls 6 [(5, .int (nI p)), (0, .ref (E.2.2.2 2)), (1, .ref (E.2.2.2 1)), (2, .ref (E.2.2.2 17)), (3, .int (nI t)), (4, .int sc)] → va_P E.1 gp_cl (gp_wG E (gp_lp rec t sc (I, F) p).1 (gp_lp rec t sc (I, F) p).2) H → va_D A (gp_wG E (gp_lp rec t sc (I, F) p).1 (gp_lp rec t sc (I, F) p).2) → va_S A xs.heap H locs → W xp l xe (gp_rm (LL + 2) 0 0) xs xm ([.ref (E.2.2.2 2), .ref (E.2.2.2 1), .ref (E.2.2.2 17), .int (nI t), .int sc] : List Value).toArray below meth xc H locs 0 0 (MQ below (gp_QW E none (gp_wG E I F) (gp_wG E (if sc + I 10 * (nI nt - nI t) < I 11 then gp_st rec np t sc (I, F) else (I, F)).1 (if sc + I 10 * (nI nt - nI t) < I 11 then gp_st rec np t sc (I, F) else (I, F)).2) xs.heap.size) ([.ref (E.2.2.2 2), .ref (E.2.2.2 1), .ref (E.2.2.2 17), .int (nI t), .int sc] : List Value).toArray xs 0 0 A) (F0 xm 44 ls []) := by
        intro n
        induction n with
        | zero =>
          intro p h1 hm
          exact absurd hm (by omega)
        | succ n ih44 =>
          intro p h1 hm ls H locs hl hP hD hS
          have hk : gp_kp (I, F) (gp_lp rec t sc (I, F) p) := gp_lp_kp hkp p
          refine lv_iload hx hb d_S_place_44 (lv_at hl 0 rfl) ?_
          refine lv_aload_n hx hb d_S_place_46 rfl (lv_at hl 2 rfl) ?_
          refine va_get (D := E.1) (cl := gp_cl) (ci := 1) (v := .int (nI np)) (C := R_D) (T := T_D) (N := 13) hx hb hts i_D hown hK hP 1 rfl rfl 8 (by decide) (hts _ w1_41) (fun _ h9 => h9) (congrArg (fun z => some (Value.int z)) ((hk.1 4 (by decide)).trans hp4)) d_S_place_47 ?_
          refine lv_icmp_ge (tgt := 81) hx hb d_S_place_50 (by decide) (fun c50 => ?_) (fun c50 => ?_)
          · have c50 := c50
            have nc50 : np ≤ p := (nI_leI (a := np) (b := p) (by omega) (by omega)).mp c50
            have hpe : np = p := by omega
            subst hpe
            refine lv_aload_n hx hb d_S_place_81 rfl (lv_at hl 1 rfl) ?_
            refine va_get (D := E.1) (cl := gp_cl) (ci := 2) (v := .ref (E.2.2.2 13)) (C := R_S) (T := T_S) (N := 9) hx hb hts i_S hown hK hP 2 rfl rfl 2 (by decide) (hts _ w1_91) (fun _ h9 => h9) rfl d_S_place_82 ?_
            refine lv_iload_n hx hb d_S_place_85 rfl (lv_at hl 4 rfl) ?_
            refine gp_ald (f := ((gp_lp rec t sc (I, F) np).2 10)) (n := 6) hx hb hK hP 13 rfl (t) rfl (by omega) (by decide) d_S_place_86 ?_
            refine lv_aload_n hx hb d_S_place_87 rfl (lv_at hl 1 rfl) ?_
            refine lv_iconst (v := (-1)) hx hb d_S_place_88 (by decide) ?_
            refine gp_cR (q0 := 2) (ci := 2) (As := [.int (-1)]) (rest := [.int (((gp_lp rec t sc (I, F) np).2 10) (t))]) ⟨hx, hb, hml, hown, hts⟩ (c_S_bitOf l E (gp_lp rec t sc (I, F) np).1 (gp_lp rec t sc (I, F) np).2 (-1)) (k_S_57 hts ⟨by dsimp only [gp_rm]; omega, by dsimp only [gp_rm]; omega⟩ rfl rfl) hK hP rfl rfl rfl hl.1 rfl (Nat.le_of_ble_eq_true rfl) d_S_place_89 ⟨Nat.le_of_ble_eq_true rfl, Nat.le_of_ble_eq_true rfl⟩ ?_
            refine lv_iand hx hb d_S_place_92 ?_
            refine lv_if_eq (tgt := 125) hx hb d_S_place_93 (by decide) (fun c93 => ?_) (fun c93 => ?_)
            · have c93 := c93
              exact gp_wv hx hb hr hlocks hAe rfl (by rw [if_pos c18]; unfold gp_st; first | (rw [if_pos c93]; exact hP) | (rw [if_neg c93]; exact hP)) hS d_S_place_125
            · have c93 := c93
              refine lv_aload_n hx hb d_S_place_96 rfl (lv_at hl 1 rfl) ?_
              refine va_get (D := E.1) (cl := gp_cl) (ci := 2) (v := .ref (E.2.2.2 12)) (C := R_S) (T := T_S) (N := 9) hx hb hts i_S hown hK hP 2 rfl rfl 1 (by decide) (hts _ w1_90) (fun _ h9 => h9) rfl d_S_place_97 ?_
              refine lv_iload_n hx hb d_S_place_100 rfl (lv_at hl 4 rfl) ?_
              refine lv_iconst (v := (-1)) hx hb d_S_place_101 (by decide) ?_
              refine gp_ast (f := ((gp_lp rec t sc (I, F) np).2 9)) (n := 6) hx hb hK hP hD hS 12 rfl (t) rfl (by omega) (by decide) d_S_place_102 (fun H locs hP hD hS => ?_)
              have hP : va_P E.1 gp_cl (gp_wG E (gp_lp rec t sc (I, F) np).1 (gp_uF (gp_lp rec t sc (I, F) np).2 9 (upd ((gp_lp rec t sc (I, F) np).2 9) (t) (-1)))) H := hP
              have hD : va_D A (gp_wG E (gp_lp rec t sc (I, F) np).1 (gp_uF (gp_lp rec t sc (I, F) np).2 9 (upd ((gp_lp rec t sc (I, F) np).2 9) (t) (-1)))) := hD
              refine lv_aload_n hx hb d_S_place_103 rfl (lv_at hl 1 rfl) ?_
              refine lv_aload_n hx hb d_S_place_104 rfl (lv_at hl 2 rfl) ?_
              refine lv_aload_n hx hb d_S_place_105 rfl (lv_at hl 3 rfl) ?_
              refine lv_iload_n hx hb d_S_place_106 rfl (lv_at hl 4 rfl) ?_
              refine lv_iconst (v := 1) hx hb d_S_place_107 (by decide) ?_
              refine lv_iadd hx hb d_S_place_108 ?_
              rw [show ((nI t) + 1) = (nI (t + 1)) from nI_1 _]
              refine lv_iload hx hb d_S_place_109 (lv_at hl 5 rfl) ?_
              refine lv_aload_n hx hb d_S_place_111 rfl (lv_at hl 1 rfl) ?_
              refine lv_aload_n hx hb d_S_place_112 rfl (lv_at hl 3 rfl) ?_
              refine lv_iload_n hx hb d_S_place_113 rfl (lv_at hl 4 rfl) ?_
              refine gp_ald (f := ((gp_lp rec t sc (I, F) np).2 14)) (n := 6) hx hb hK hP 17 rfl (t) rfl (by omega) (by decide) d_S_place_114 ?_
              refine lv_iconst (v := (-1)) hx hb d_S_place_115 (by decide) ?_
              refine lv_bipush (v := 100) hx hb d_S_place_116 (by decide) ?_
              refine gp_cR (q0 := 2) (ci := 2) (As := [.int (((gp_lp rec t sc (I, F) np).2 14) (t)), .int (-1), .int 100]) (rest := [.int sc, .int (nI (t + 1)), .ref (E.2.2.2 17), .ref (E.2.2.2 1), .ref (E.2.2.2 2)]) ⟨hx, hb, hml, hown, hts⟩ (c_S_weightOf l E (gp_lp rec t sc (I, F) np).1 (gp_uF (gp_lp rec t sc (I, F) np).2 9 (upd ((gp_lp rec t sc (I, F) np).2 9) (t) (-1))) ((gp_lp rec t sc (I, F) np).2 14 t) (-1) 100) (k_S_94 hts ⟨by dsimp only [gp_rm]; omega, by dsimp only [gp_rm]; omega⟩ rfl rfl) hK hP rfl rfl rfl hl.1 rfl (Nat.le_of_ble_eq_true rfl) d_S_place_118 ⟨Nat.le_of_ble_eq_true rfl, Nat.le_of_ble_eq_true rfl⟩ ?_
              refine lv_iadd hx hb d_S_place_121 ?_
              refine gp_cW (q0 := 2) (ci := 2) (As := [.ref (E.2.2.2 1), .ref (E.2.2.2 17), .int (nI (t + 1)), .int (sc + (gp_wt (gp_lp rec t sc (I, F) np).1 ((gp_lp rec t sc (I, F) np).2 14 t) (-1) 100))]) (rest := []) ⟨hx, hb, hml, hown, hts⟩ (hrec (gp_lp rec t sc (I, F) np).1 (gp_uF (gp_lp rec t sc (I, F) np).2 9 (upd ((gp_lp rec t sc (I, F) np).2 9) (t) (-1))) (sc + gp_wt (gp_lp rec t sc (I, F) np).1 ((gp_lp rec t sc (I, F) np).2 14 t) (-1) 100) ((hk.1 4 (by decide)).trans hp4) ((hk.1 6 (by decide)).trans hT)) (k_S_68 hts ⟨by dsimp only [gp_rm]; omega, by dsimp only [gp_rm]; omega⟩ rfl rfl) hK hP hD hS hA rfl rfl rfl rfl hl.1 rfl (Nat.le_of_ble_eq_true rfl) d_S_place_122 ⟨Nat.le_of_ble_eq_true rfl, Nat.le_of_ble_eq_true rfl⟩ (fun H locs hP hD hS => ?_)
              have hP : va_P E.1 gp_cl (gp_wG E (rec (sc + gp_wt (gp_lp rec t sc (I, F) np).1 ((gp_lp rec t sc (I, F) np).2 14 t) (-1) 100) ((gp_lp rec t sc (I, F) np).1, (gp_uF (gp_lp rec t sc (I, F) np).2 9 (upd ((gp_lp rec t sc (I, F) np).2 9) (t) (-1))))).1 (rec (sc + gp_wt (gp_lp rec t sc (I, F) np).1 ((gp_lp rec t sc (I, F) np).2 14 t) (-1) 100) ((gp_lp rec t sc (I, F) np).1, (gp_uF (gp_lp rec t sc (I, F) np).2 9 (upd ((gp_lp rec t sc (I, F) np).2 9) (t) (-1))))).2) H := hP
              have hD : va_D A (gp_wG E (rec (sc + gp_wt (gp_lp rec t sc (I, F) np).1 ((gp_lp rec t sc (I, F) np).2 14 t) (-1) 100) ((gp_lp rec t sc (I, F) np).1, (gp_uF (gp_lp rec t sc (I, F) np).2 9 (upd ((gp_lp rec t sc (I, F) np).2 9) (t) (-1))))).1 (rec (sc + gp_wt (gp_lp rec t sc (I, F) np).1 ((gp_lp rec t sc (I, F) np).2 14 t) (-1) 100) ((gp_lp rec t sc (I, F) np).1, (gp_uF (gp_lp rec t sc (I, F) np).2 9 (upd ((gp_lp rec t sc (I, F) np).2 9) (t) (-1))))).2) := hD
              exact gp_wv hx hb hr hlocks hAe rfl (by rw [if_pos c18]; unfold gp_st; first | (rw [if_pos c93]; exact hP) | (rw [if_neg c93]; exact hP)) hS d_S_place_125
          · have c50 := c50
            have nc50 : ¬ np ≤ p := fun h => c50 ((nI_leI (a := np) (b := p) (by omega) (by omega)).mpr h)
            refine lv_aload_n hx hb d_S_place_53 rfl (lv_at hl 1 rfl) ?_
            refine lv_aload_n hx hb d_S_place_54 rfl (lv_at hl 2 rfl) ?_
            refine lv_iload hx hb d_S_place_55 (lv_at hl 0 rfl) ?_
            refine lv_iload_n hx hb d_S_place_57 rfl (lv_at hl 4 rfl) ?_
            refine gp_cR (q0 := 2) (ci := 2) (As := [.ref (E.2.2.2 1), .int (nI p), .int (nI t)]) (rest := []) ⟨hx, hb, hml, hown, hts⟩ (c_S_mayTake l E (gp_lp rec t sc (I, F) p).1 (gp_lp rec t sc (I, F) p).2 nt p t ((hk.1 6 (by decide)).trans hT) hnt ht (by omega)) (k_S_86 hts ⟨by dsimp only [gp_rm]; omega, by dsimp only [gp_rm]; omega⟩ rfl rfl) hK hP rfl rfl rfl hl.1 rfl (Nat.le_of_ble_eq_true rfl) d_S_place_58 ⟨Nat.le_of_ble_eq_true rfl, Nat.le_of_ble_eq_true rfl⟩ ?_
            by_cases hs58 : gp_may (gp_lp rec t sc (I, F) p).1 (gp_lp rec t sc (I, F) p).2 p t = true
            · rw [if_pos hs58]
              refine lv_if_eq (tgt := 75) hx hb d_S_place_61 (by decide) (fun c61 => ?_) (fun c61 => ?_)
              · exact absurd c61 (by decide)
              · have c61 := c61
                have nc61 : ¬ 1 = 0 := fun h => c61 ((nI_eq (a := 1) (b := 0) (by omega) (by omega)).mpr h)
                refine lv_aload_n hx hb d_S_place_64 rfl (lv_at hl 1 rfl) ?_
                refine lv_aload_n hx hb d_S_place_65 rfl (lv_at hl 2 rfl) ?_
                refine lv_aload_n hx hb d_S_place_66 rfl (lv_at hl 3 rfl) ?_
                refine lv_iload_n hx hb d_S_place_67 rfl (lv_at hl 4 rfl) ?_
                refine lv_iload hx hb d_S_place_68 (lv_at hl 5 rfl) ?_
                refine lv_iload hx hb d_S_place_70 (lv_at hl 0 rfl) ?_
                refine gp_cW (q0 := 2) (ci := 2) (As := [.ref (E.2.2.2 1), .ref (E.2.2.2 17), .int (nI t), .int sc, .int (nI p)]) (rest := []) ⟨hx, hb, hml, hown, hts⟩ (c_S_placePerson l E rec LL np nt t hLL hnp hnt ht hkp hrec (gp_lp rec t sc (I, F) p).1 (gp_lp rec t sc (I, F) p).2 sc p (by omega) ((hk.1 4 (by decide)).trans hp4) ((hk.1 6 (by decide)).trans hT)) (k_S_90 hts ⟨by dsimp only [gp_rm]; omega, by dsimp only [gp_rm]; omega⟩ rfl rfl) hK hP hD hS hA rfl rfl rfl rfl hl.1 rfl (Nat.le_of_ble_eq_true rfl) d_S_place_72 ⟨Nat.le_of_ble_eq_true rfl, Nat.le_of_ble_eq_true rfl⟩ (fun H locs hP hD hS => ?_)
                have hP : va_P E.1 gp_cl (gp_wG E (gp_pp rec t p sc (gp_lp rec t sc (I, F) p)).1 (gp_pp rec t p sc (gp_lp rec t sc (I, F) p)).2) H := hP
                have hD : va_D A (gp_wG E (gp_pp rec t p sc (gp_lp rec t sc (I, F) p)).1 (gp_pp rec t p sc (gp_lp rec t sc (I, F) p)).2) := hD
                refine lv_iinc (v := (nI (p + 1))) (lv' := [(5, .int (nI (p + 1))), (0, .ref (E.2.2.2 2)), (1, .ref (E.2.2.2 1)), (2, .ref (E.2.2.2 17)), (3, .int (nI t)), (4, .int sc)]) hx hb d_S_place_75 hl (k := 0) rfl (nI_1 _) (by decide) rfl (fun ls hl => ?_)
                refine lv_goto (tgt := 44) hx hb d_S_place_78 (by decide) ?_
                exact ih44 (p + 1) (by omega) (by omega) ls _ _ (lv_sub hl [0, 1, 2, 3, 4, 5] rfl) (by first | (rw [gp_lp, if_pos hs58]; exact hP) | (rw [gp_lp, if_neg hs58]; exact hP)) (gp_dd hD rfl) hS
            · rw [if_neg hs58]
              refine lv_if_eq (tgt := 75) hx hb d_S_place_61 (by decide) (fun c61 => ?_) (fun c61 => ?_)
              · have c61 := c61
                have nc61 : 0 = 0 := (nI_eq (a := 0) (b := 0) (by omega) (by omega)).mp c61
                refine lv_iinc (v := (nI (p + 1))) (lv' := [(5, .int (nI (p + 1))), (0, .ref (E.2.2.2 2)), (1, .ref (E.2.2.2 1)), (2, .ref (E.2.2.2 17)), (3, .int (nI t)), (4, .int sc)]) hx hb d_S_place_75 hl (k := 0) rfl (nI_1 _) (by decide) rfl (fun ls hl => ?_)
                refine lv_goto (tgt := 44) hx hb d_S_place_78 (by decide) ?_
                exact ih44 (p + 1) (by omega) (by omega) ls _ _ (lv_sub hl [0, 1, 2, 3, 4, 5] rfl) (by first | (rw [gp_lp, if_pos hs58]; exact hP) | (rw [gp_lp, if_neg hs58]; exact hP)) (gp_dd hD rfl) hS
              · exact absurd c61 (by decide)
      exact L44 (np + 1) 0 (Nat.zero_le _) (by omega) ls _ _ (lv_sub hl [0, 1, 2, 3, 4, 5] rfl) (hP) (hD) hS
    · have c27 := c27
      have nc27 : ¬ t < nt := fun h => c27 ((nI_ltI (a := t) (b := nt) (by omega) (by omega)).mpr h)
      exact False.elim (by omega)
  · have c18 := c18
    have mc18 : (I 11) ≤ (sc + ((I 10) * ((nI nt) - (nI t)))) := Int32.not_lt.mp c18
    exact gp_wv hx hb hr hlocks hAe rfl (by rw [if_neg c18]; exact hP) hS d_S_place_21
theorem c_S_place (l : Launch) (E : gp_E) (np nt : Nat) (hnp : np ≤ 4) (hnt : nt ≤ 6) : ∀ (k t : Nat), t + k = nt → ∀ (I : Nat → Int32) (F : Nat → Nat → Int32) (sc : Int32), I 4 = nI np → I 6 = nI nt →
    gp_CW l y_S_place b_S_place 6 none (4 + 2 * k) E (gp_wG E I F) (gp_wG E (gp_pl np nt k sc (I, F)).1 (gp_pl np nt k sc (I, F)).2) [.ref (E.2.2.2 2), .ref (E.2.2.2 1), .ref (E.2.2.2 17), .int (nI t), .int sc] none := by
  intro k
  induction k with
  | zero =>
    intro t ht I F sc hp4 hT
    obtain rfl : t = nt := ht
    exact c_S_place0 l E np t hnp hnt I F sc hp4 hT
  | succ k ih =>
    intro t ht I F sc hp4 hT
    have h := c_S_placeS l E (gp_pl np nt k) (4 + 2 * k) np nt t (by omega) hnp hnt (by omega) (gp_pl_kp k) (ih (t + 1) (by omega)) I F sc hp4 hT
    have e : gp_pl np nt (k + 1) sc (I, F) = (if sc + I 10 * (nI nt - nI t) < I 11 then gp_st (gp_pl np nt k) np t sc (I, F) else (I, F)) := by
      rw [gp_pl, show nt - (k + 1) = t by omega]
    rw [e]
    exact h
end
section
/-! ===== Search: find, findAnew, findNearest, firstLacking ===== -/
def gp_c0 (F : Nat → Nat → Int32) (ns np : Nat) (fr : Int32) (t : Nat) : Int32 := if fr ≤ F 5 t then gp_bs F ns t np ||| gp_bit (-1) else gp_bit (F 14 t)
def gp_ch (F : Nat → Nat → Int32) (ns np : Nat) (fr : Int32) (mb t : Nat) : Int32 := if F 7 t = 0 then gp_c0 F ns np fr t else if t < mb then gp_c0 F ns np fr t &&& (gp_bit (-1) ^^^ (-1)) else gp_c0 F ns np fr t
def gp_fd (np nt ns : Nat) (fr : Int32) (mb : Nat) (σ : gp_S) : gp_S := gp_pl np nt nt 0 (upd σ.1 11 1000000, gp_uF (gp_uF (gp_uF (gp_uF σ.2 10 (fun j => if j < nt then gp_ch σ.2 ns np fr mb j else σ.2 10 j)) 11 (fun j => if j < nt then gp_bn σ.1 σ.2 j nt else σ.2 11 j)) 12 (fun j => if j < 4 then 0 else σ.2 12 j)) 13 (fun j => if j < 4 then 0 else σ.2 13 j))
def gp_kq (σ τ : gp_S) : Prop := (∀ i, i ≠ 11 → τ.1 i = σ.1 i) ∧ (∀ a, a < 8 → τ.2 a = σ.2 a) ∧ ∀ a, 13 < a → τ.2 a = σ.2 a
theorem gp_fd_kq {np nt ns : Nat} {fr : Int32} {mb : Nat} {σ : gp_S} : gp_kq σ (gp_fd np nt ns fr mb σ) := by
  have h := gp_pl_kp (np := np) (nt := nt) nt 0 (upd σ.1 11 1000000, gp_uF (gp_uF (gp_uF (gp_uF σ.2 10 (fun j => if j < nt then gp_ch σ.2 ns np fr mb j else σ.2 10 j)) 11 (fun j => if j < nt then gp_bn σ.1 σ.2 j nt else σ.2 11 j)) 12 (fun j => if j < 4 then 0 else σ.2 12 j)) 13 (fun j => if j < 4 then 0 else σ.2 13 j))
  refine ⟨fun i hi => (h.1 i hi).trans (by simp [upd, hi]), fun a ha => (h.2 a (by omega) (by omega) (by omega) (by omega)).trans ?_, fun a ha => (h.2 a (by omega) (by omega) (by omega) (by omega)).trans ?_⟩
  · exact (gp_uF_ne (by omega)).trans ((gp_uF_ne (by omega)).trans ((gp_uF_ne (by omega)).trans (gp_uF_ne (by omega))))
  · exact (gp_uF_ne (by omega)).trans ((gp_uF_ne (by omega)).trans ((gp_uF_ne (by omega)).trans (gp_uF_ne (by omega))))
theorem gp_of1_c {F G : Nat → Nat → Int32} (h : ∀ a, a < 8 → G a = F a) (p : Int32) (t s : Nat) : gp_of1 G p t s = gp_of1 F p t s := by
  simp only [gp_of1, h 1 (by omega), h 2 (by omega), h 3 (by omega), h 5 (by omega), h 6 (by omega)]
theorem gp_ofN_c {F G : Nat → Nat → Int32} (h : ∀ a, a < 8 → G a = F a) (p : Int32) (t : Nat) : ∀ k, gp_ofN G p t k = gp_ofN F p t k := by
  intro k
  induction k with
  | zero => rfl
  | succ k ih => simp only [gp_ofN, ih, gp_of1_c h]
theorem gp_suit_c {F G : Nat → Nat → Int32} (h : ∀ a, a < 8 → G a = F a) (ns p t : Nat) : gp_suit G ns p t = gp_suit F ns p t := by
  simp only [gp_suit, h 0 (by omega), h 4 (by omega), gp_ofN_c h]
theorem gp_bs_c {F G : Nat → Nat → Int32} (h : ∀ a, a < 8 → G a = F a) (ns t : Nat) : ∀ k, gp_bs G ns t k = gp_bs F ns t k := by
  intro k
  induction k with
  | zero => rfl
  | succ k ih => simp only [gp_bs, ih, gp_suit_c h]
theorem gp_near_c {I J : Nat → Int32} {F G : Nat → Nat → Int32} (hI : J 7 = I 7) (h : ∀ a, a < 8 → G a = F a) (t u : Nat) : gp_near J G t u = gp_near I F t u := by
  simp only [gp_near, hI, h 5 (by omega), h 6 (by omega)]
theorem gp_bn_c {I J : Nat → Int32} {F G : Nat → Nat → Int32} (hI : J 7 = I 7) (h : ∀ a, a < 8 → G a = F a) (t : Nat) : ∀ k, gp_bn J G t k = gp_bn I F t k := by
  intro k
  induction k with
  | zero => rfl
  | succ k ih => simp only [gp_bn, ih, gp_near_c hI h]
theorem c_S_bitsOfSuitingF (l : Launch) (E : gp_E) (I : Nat → Int32) (F G : Nat → Nat → Int32) (np nt ns t : Nat) (h : ∀ a, a < 8 → G a = F a) (hp4 : I 4 = nI np) (hT : I 6 = nI nt) (hN : I 5 = nI ns) (hnp : np ≤ 4) (hnt : nt ≤ 6) (hns : ns ≤ 20) (ht : t < nt) : gp_CR l y_S_bitsOfSuiting b_S_bitsOfSuiting 5 (some .int) 3 E (gp_wG E I G) [.ref (E.2.2.2 2), .ref (E.2.2.2 1), .int (nI t)] (gp_bs F ns t np) := by
  rw [← gp_bs_c h]
  exact c_S_bitsOfSuiting l E I G np nt ns t hp4 hT hN hnp hnt hns ht
theorem c_S_bitsOfTooNearF (l : Launch) (E : gp_E) (I : Nat → Int32) (F G : Nat → Nat → Int32) (nt t : Nat) (h : ∀ a, a < 8 → G a = F a) (hT : I 6 = nI nt) (hnt : nt ≤ 6) (ht : t < nt) : gp_CR l y_S_bitsOfTooNear b_S_bitsOfTooNear 5 (some .int) 3 E (gp_wG E I G) [.ref (E.2.2.2 2), .ref (E.2.2.2 1), .int (nI t)] (gp_bn I F t nt) := by
  rw [← gp_bn_c (I := I) rfl h]
  exact c_S_bitsOfTooNear l E I G nt t hT hnt ht
/-- from place t on, with k places left: what is answered, and the state -/
def gp_fl (np nt ns : Nat) (fr : Int32) : Nat → Nat → gp_S → Int32 × gp_S
  | 0, _, σ => (-1, σ)
  | k + 1, t, σ => if σ.2 7 t = 0 then gp_fl np nt ns fr k (t + 1) σ else if (gp_fd np nt ns fr (t + 1) σ).1 11 < 1000000 then gp_fl np nt ns fr k (t + 1) (gp_fd np nt ns fr (t + 1) σ) else (σ.2 5 t, gp_fd np nt ns fr (t + 1) σ)
set_option maxHeartbeats 4000000 in
set_option maxRecDepth 100000 in
theorem c_S_find (l : Launch) (E : gp_E) (I : Nat → Int32) (F : Nat → Nat → Int32) (np nt ns mb : Nat) (fr : Int32) (hp4 : I 4 = nI np) (hT : I 6 = nI nt) (hN : I 5 = nI ns) (hnp : np ≤ 4) (hnt : nt ≤ 6) (hns : ns ≤ 20) (hmb : mb ≤ 6) : gp_CW l y_S_find b_S_find 8 (some .boolean) 17 E (gp_wG E I F) (gp_wG E (gp_fd np nt ns fr mb (I, F)).1 (gp_fd np nt ns fr mb (I, F)).2) [.ref (E.2.2.2 2), .ref (E.2.2.2 1), .ref (E.2.2.2 17), .int fr, .int (nI mb)] (some (.int (if (gp_fd np nt ns fr mb (I, F)).1 11 < 1000000 then 1 else 0))) := by
  refine gp_ofW (by decide) (Nat.le_of_ble_eq_true rfl) ?_
  intro xp xe xs xm below meth xc ls A hx hb hr hts hown hlocks hml hP hK hD hA hAe hl
  have hS : va_S A xs.heap xs.heap [] := va_S.rf
  have hown : xs.vm.findClass "GuidePlans$Search" = some xm.cls := hown
  have hl : lv_has ls 8 [(0, .ref (E.2.2.2 2)), (1, .ref (E.2.2.2 1)), (2, .ref (E.2.2.2 17)), (3, .int fr), (4, .int (nI mb))] := hl
  refine lv_iconst (v := 0) hx hb d_S_find_0 (by decide) ?_
  refine lv_istore (lv' := [(5, .int 0), (0, .ref (E.2.2.2 2)), (1, .ref (E.2.2.2 1)), (2, .ref (E.2.2.2 17)), (3, .int fr), (4, .int (nI mb))]) hx hb d_S_find_1 hl (by decide) rfl (fun ls hl => ?_)
  have L3 : ∀ (n : Nat) (t : Nat), t ≤ nt → nt + 1 ≤ t + n → ∀ (ls : Array Slot) (H : Heap) (locs : List Loc), lv_has ls 8 [(5, .int (nI t)), (0, .ref (E.2.2.2 2)), (1, .ref (E.2.2.2 1)), (2, .ref (E.2.2.2 17)), (3, .int fr), (4, .int (nI mb))] → va_P E.1 gp_cl (gp_wG E I (gp_uF (gp_uF F 10 (fun j => if j < t then gp_ch F ns np fr mb j else F 10 j)) 11 (fun j => if j < t then gp_bn I F j nt else F 11 j))) H → va_D A (gp_wG E I (gp_uF (gp_uF F 10 (fun j => if j < t then gp_ch F ns np fr mb j else F 10 j)) 11 (fun j => if j < t then gp_bn I F j nt else F 11 j))) → va_S A xs.heap H locs → W xp l xe (gp_rm 17 0 0) xs xm ([.ref (E.2.2.2 2), .ref (E.2.2.2 1), .ref (E.2.2.2 17), .int fr, .int (nI mb)] : List Value).toArray below meth xc H locs 0 0 (MQ below (gp_QW E (some (.int (if (gp_fd np nt ns fr mb (I, F)).1 11 < 1000000 then 1 else 0))) (gp_wG E I F) (gp_wG E (gp_fd np nt ns fr mb (I, F)).1 (gp_fd np nt ns fr mb (I, F)).2) xs.heap.size) ([.ref (E.2.2.2 2), .ref (E.2.2.2 1), .ref (E.2.2.2 17), .int fr, .int (nI mb)] : List Value).toArray xs 0 0 A) (F0 xm 3 ls []) := by
    intro n
    induction n with
    | zero =>
      intro t h1 hm
      exact absurd hm (by omega)
    | succ n ih3 =>
      intro t h1 hm ls H locs hl hP hD hS
      refine lv_iload hx hb d_S_find_3 (lv_at hl 0 rfl) ?_
      refine lv_aload_n hx hb d_S_find_5 rfl (lv_at hl 2 rfl) ?_
      refine va_get (D := E.1) (cl := gp_cl) (ci := 1) (v := .int (nI nt)) (C := R_D) (T := T_D) (N := 13) hx hb hts i_D hown hK hP 1 rfl rfl 10 (by decide) (hts _ w1_45) (fun _ h9 => h9) (congrArg (fun z => some (Value.int z)) hT) d_S_find_6 ?_
      refine lv_icmp_ge (tgt := 132) hx hb d_S_find_9 (by decide) (fun c9 => ?_) (fun c9 => ?_)
      · have c9 := c9
        have nc9 : nt ≤ t := (nI_leI (a := nt) (b := t) (by omega) (by omega)).mp c9
        have hte : nt = t := by omega
        subst hte
        refine lv_iconst (v := 0) hx hb d_S_find_132 (by decide) ?_
        refine lv_istore (lv' := [(5, .int 0), (0, .ref (E.2.2.2 2)), (1, .ref (E.2.2.2 1)), (2, .ref (E.2.2.2 17)), (3, .int fr), (4, .int (nI mb))]) hx hb d_S_find_133 hl (by decide) rfl (fun ls hl => ?_)
        have L135 : ∀ (n : Nat) (p : Nat), p ≤ 4 → 5 ≤ p + n → ∀ (ls : Array Slot) (H : Heap) (locs : List Loc), lv_has ls 8 [(5, .int (nI p)), (0, .ref (E.2.2.2 2)), (1, .ref (E.2.2.2 1)), (2, .ref (E.2.2.2 17)), (3, .int fr), (4, .int (nI mb))] → va_P E.1 gp_cl (gp_wG E I (gp_uF (gp_uF (gp_uF (gp_uF F 10 (fun j => if j < nt then gp_ch F ns np fr mb j else F 10 j)) 11 (fun j => if j < nt then gp_bn I F j nt else F 11 j)) 12 (fun j => if j < p then 0 else F 12 j)) 13 (fun j => if j < p then 0 else F 13 j))) H → va_D A (gp_wG E I (gp_uF (gp_uF (gp_uF (gp_uF F 10 (fun j => if j < nt then gp_ch F ns np fr mb j else F 10 j)) 11 (fun j => if j < nt then gp_bn I F j nt else F 11 j)) 12 (fun j => if j < p then 0 else F 12 j)) 13 (fun j => if j < p then 0 else F 13 j))) → va_S A xs.heap H locs → W xp l xe (gp_rm 17 0 0) xs xm ([.ref (E.2.2.2 2), .ref (E.2.2.2 1), .ref (E.2.2.2 17), .int fr, .int (nI mb)] : List Value).toArray below meth xc H locs 0 0 (MQ below (gp_QW E (some (.int (if (gp_fd np nt ns fr mb (I, F)).1 11 < 1000000 then 1 else 0))) (gp_wG E I F) (gp_wG E (gp_fd np nt ns fr mb (I, F)).1 (gp_fd np nt ns fr mb (I, F)).2) xs.heap.size) ([.ref (E.2.2.2 2), .ref (E.2.2.2 1), .ref (E.2.2.2 17), .int fr, .int (nI mb)] : List Value).toArray xs 0 0 A) (F0 xm 135 ls []) := by
          intro n
          induction n with
          | zero =>
            intro p h1 hm
            exact absurd hm (by omega)
          | succ n ih135 =>
            intro p h1 hm ls H locs hl hP hD hS
            refine lv_iload hx hb d_S_find_135 (lv_at hl 0 rfl) ?_
            refine lv_iconst (v := 4) hx hb d_S_find_137 (by decide) ?_
            refine lv_icmp_ge (tgt := 163) hx hb d_S_find_138 (by decide) (fun c138 => ?_) (fun c138 => ?_)
            · have c138 := c138
              have nc138 : 4 ≤ p := (nI_leI (a := 4) (b := p) (by omega) (by omega)).mp c138
              have hpe : p = 4 := by omega
              subst hpe
              refine lv_aload_n hx hb d_S_find_163 rfl (lv_at hl 1 rfl) ?_
              refine lv_ldc (v := 1000000) hx hb hown (hts _ w1_87) d_S_find_164 ?_
              refine va_put (D := E.1) (cl := gp_cl) (ci := 2) (v := .int 1000000) (ty := .int) (C := R_S) (T := T_S) (N := 9) hx hb hts i_S t_S t_S_ok n_S hown hK hP hD hS 2 rfl rfl 8 (by decide) (hts _ w1_97) (fun _ h9 => h9) rfl (by decide +kernel) rfl rfl (Nat.le_of_ble_eq_true rfl) d_S_find_166 (fun H locs hP hD hS => ?_)
              have hP : va_P E.1 gp_cl (gp_wG E (upd I 11 1000000) (gp_uF (gp_uF (gp_uF (gp_uF F 10 (fun j => if j < nt then gp_ch F ns np fr mb j else F 10 j)) 11 (fun j => if j < nt then gp_bn I F j nt else F 11 j)) 12 (fun j => if j < 4 then 0 else F 12 j)) 13 (fun j => if j < 4 then 0 else F 13 j))) H := hP
              have hD : va_D A (gp_wG E (upd I 11 1000000) (gp_uF (gp_uF (gp_uF (gp_uF F 10 (fun j => if j < nt then gp_ch F ns np fr mb j else F 10 j)) 11 (fun j => if j < nt then gp_bn I F j nt else F 11 j)) 12 (fun j => if j < 4 then 0 else F 12 j)) 13 (fun j => if j < 4 then 0 else F 13 j))) := hD
              refine lv_aload_n hx hb d_S_find_169 rfl (lv_at hl 1 rfl) ?_
              refine lv_aload_n hx hb d_S_find_170 rfl (lv_at hl 2 rfl) ?_
              refine lv_aload_n hx hb d_S_find_171 rfl (lv_at hl 3 rfl) ?_
              refine lv_iconst (v := 0) hx hb d_S_find_172 (by decide) ?_
              refine lv_iconst (v := 0) hx hb d_S_find_173 (by decide) ?_
              refine gp_cW (q0 := 2) (ci := 2) (As := [.ref (E.2.2.2 1), .ref (E.2.2.2 17), .int 0, .int 0]) (rest := []) ⟨hx, hb, hml, hown, hts⟩ (c_S_place l E np nt hnp hnt nt 0 (by omega) (upd I 11 1000000) (gp_uF (gp_uF (gp_uF (gp_uF F 10 (fun j => if j < nt then gp_ch F ns np fr mb j else F 10 j)) 11 (fun j => if j < nt then gp_bn I F j nt else F 11 j)) 12 (fun j => if j < 4 then 0 else F 12 j)) 13 (fun j => if j < 4 then 0 else F 13 j)) 0 hp4 hT) (k_S_68 hts ⟨by dsimp only [gp_rm]; omega, by dsimp only [gp_rm]; omega⟩ rfl rfl) hK hP hD hS hA rfl rfl rfl rfl hl.1 rfl (Nat.le_of_ble_eq_true rfl) d_S_find_174 ⟨Nat.le_of_ble_eq_true rfl, Nat.le_of_ble_eq_true rfl⟩ (fun H locs hP hD hS => ?_)
              have hP : va_P E.1 gp_cl (gp_wG E (gp_fd np nt ns fr mb (I, F)).1 (gp_fd np nt ns fr mb (I, F)).2) H := hP
              have hD : va_D A (gp_wG E (gp_fd np nt ns fr mb (I, F)).1 (gp_fd np nt ns fr mb (I, F)).2) := hD
              refine lv_aload_n hx hb d_S_find_177 rfl (lv_at hl 1 rfl) ?_
              refine va_get (D := E.1) (cl := gp_cl) (ci := 2) (v := .int ((gp_fd np nt ns fr mb (I, F)).1 11)) (C := R_S) (T := T_S) (N := 9) hx hb hts i_S hown hK hP 2 rfl rfl 8 (by decide) (hts _ w1_97) (fun _ h9 => h9) rfl d_S_find_178 ?_
              refine lv_ldc (v := 1000000) hx hb hown (hts _ w1_87) d_S_find_181 ?_
              refine lv_icmp_ge (tgt := 190) hx hb d_S_find_183 (by decide) (fun c183 => ?_) (fun c183 => ?_)
              · have c183 := c183
                have mc183 : ¬ ((gp_fd np nt ns fr mb (I, F)).1 11) < 1000000 := Int32.not_lt.mpr c183
                refine lv_iconst (v := 0) hx hb d_S_find_190 (by decide) ?_
                exact gp_wz hx hb hr hlocks hAe (rfl) (by first | rw [if_pos mc183] | rw [if_neg mc183]) (hP) hS d_S_find_191
              · have c183 := c183
                have mc183 : ((gp_fd np nt ns fr mb (I, F)).1 11) < 1000000 := Int32.not_le.mp c183
                refine lv_iconst (v := 1) hx hb d_S_find_186 (by decide) ?_
                refine lv_goto (tgt := 191) hx hb d_S_find_187 (by decide) ?_
                exact gp_wz hx hb hr hlocks hAe (rfl) (by first | rw [if_pos mc183] | rw [if_neg mc183]) (hP) hS d_S_find_191
            · have c138 := c138
              have nc138 : ¬ 4 ≤ p := fun h => c138 ((nI_leI (a := 4) (b := p) (by omega) (by omega)).mpr h)
              refine lv_aload_n hx hb d_S_find_141 rfl (lv_at hl 1 rfl) ?_
              refine va_get (D := E.1) (cl := gp_cl) (ci := 2) (v := .ref (E.2.2.2 15)) (C := R_S) (T := T_S) (N := 9) hx hb hts i_S hown hK hP 2 rfl rfl 4 (by decide) (hts _ w1_93) (fun _ h9 => h9) rfl d_S_find_142 ?_
              refine lv_iload hx hb d_S_find_145 (lv_at hl 0 rfl) ?_
              refine lv_iconst (v := 0) hx hb d_S_find_147 (by decide) ?_
              refine gp_ast (f := (fun j => if j < p then 0 else F 12 j)) (n := 4) hx hb hK hP hD hS 15 rfl (p) rfl (by omega) (by decide) d_S_find_148 (fun H locs hP hD hS => ?_)
              have hP : va_P E.1 gp_cl (gp_wG E I (gp_uF (gp_uF (gp_uF (gp_uF (gp_uF F 10 (fun j => if j < nt then gp_ch F ns np fr mb j else F 10 j)) 11 (fun j => if j < nt then gp_bn I F j nt else F 11 j)) 12 (fun j => if j < p then 0 else F 12 j)) 13 (fun j => if j < p then 0 else F 13 j)) 12 (upd (fun j => if j < p then 0 else F 12 j) (p) 0))) H := hP
              have hD : va_D A (gp_wG E I (gp_uF (gp_uF (gp_uF (gp_uF (gp_uF F 10 (fun j => if j < nt then gp_ch F ns np fr mb j else F 10 j)) 11 (fun j => if j < nt then gp_bn I F j nt else F 11 j)) 12 (fun j => if j < p then 0 else F 12 j)) 13 (fun j => if j < p then 0 else F 13 j)) 12 (upd (fun j => if j < p then 0 else F 12 j) (p) 0))) := hD
              refine lv_aload_n hx hb d_S_find_149 rfl (lv_at hl 1 rfl) ?_
              refine va_get (D := E.1) (cl := gp_cl) (ci := 2) (v := .ref (E.2.2.2 16)) (C := R_S) (T := T_S) (N := 9) hx hb hts i_S hown hK hP 2 rfl rfl 5 (by decide) (hts _ w1_94) (fun _ h9 => h9) rfl d_S_find_150 ?_
              refine lv_iload hx hb d_S_find_153 (lv_at hl 0 rfl) ?_
              refine lv_iconst (v := 0) hx hb d_S_find_155 (by decide) ?_
              refine gp_ast (f := (fun j => if j < p then 0 else F 13 j)) (n := 4) hx hb hK hP hD hS 16 rfl (p) rfl (by omega) (by decide) d_S_find_156 (fun H locs hP hD hS => ?_)
              have hP : va_P E.1 gp_cl (gp_wG E I (gp_uF (gp_uF (gp_uF (gp_uF (gp_uF (gp_uF F 10 (fun j => if j < nt then gp_ch F ns np fr mb j else F 10 j)) 11 (fun j => if j < nt then gp_bn I F j nt else F 11 j)) 12 (fun j => if j < p then 0 else F 12 j)) 13 (fun j => if j < p then 0 else F 13 j)) 12 (upd (fun j => if j < p then 0 else F 12 j) (p) 0)) 13 (upd (fun j => if j < p then 0 else F 13 j) (p) 0))) H := hP
              have hD : va_D A (gp_wG E I (gp_uF (gp_uF (gp_uF (gp_uF (gp_uF (gp_uF F 10 (fun j => if j < nt then gp_ch F ns np fr mb j else F 10 j)) 11 (fun j => if j < nt then gp_bn I F j nt else F 11 j)) 12 (fun j => if j < p then 0 else F 12 j)) 13 (fun j => if j < p then 0 else F 13 j)) 12 (upd (fun j => if j < p then 0 else F 12 j) (p) 0)) 13 (upd (fun j => if j < p then 0 else F 13 j) (p) 0))) := hD
              refine lv_iinc (v := (nI (p + 1))) (lv' := [(5, .int (nI (p + 1))), (0, .ref (E.2.2.2 2)), (1, .ref (E.2.2.2 1)), (2, .ref (E.2.2.2 17)), (3, .int fr), (4, .int (nI mb))]) hx hb d_S_find_157 hl (k := 0) rfl (nI_1 _) (by decide) rfl (fun ls hl => ?_)
              refine lv_goto (tgt := 135) hx hb d_S_find_160 (by decide) ?_
              have hF : (gp_uF (gp_uF (gp_uF (gp_uF (gp_uF (gp_uF F 10 (fun j => if j < nt then gp_ch F ns np fr mb j else F 10 j)) 11 (fun j => if j < nt then gp_bn I F j nt else F 11 j)) 12 (fun j => if j < p then 0 else F 12 j)) 13 (fun j => if j < p then 0 else F 13 j)) 12 (upd (fun j => if j < p then 0 else F 12 j) (p) 0)) 13 (upd (fun j => if j < p then 0 else F 13 j) (p) 0)) = (gp_uF (gp_uF (gp_uF (gp_uF F 10 (fun j => if j < nt then gp_ch F ns np fr mb j else F 10 j)) 11 (fun j => if j < nt then gp_bn I F j nt else F 11 j)) 12 (fun j => if j < (p + 1) then 0 else F 12 j)) 13 (fun j => if j < (p + 1) then 0 else F 13 j)) := gp_F2 (by decide) (gp_up1 (h := fun _ => 0) (k := F 12) rfl) (gp_up1 (h := fun _ => 0) (k := F 13) rfl) (fun c h1 h2 => by simp [gp_uF, h1, h2])
              rw [hF] at hP
              exact ih135 (p + 1) (by omega) (by omega) ls _ _ (lv_sub hl [0, 1, 2, 3, 4, 5] rfl) (hP) (gp_dd hD rfl) hS
        exact L135 5 0 (Nat.zero_le _) (by omega) ls _ _ (lv_sub hl [0, 1, 2, 3, 4, 5] rfl) (by rw [← gp_F2 (F := (gp_uF (gp_uF F 10 (fun j => if j < nt then gp_ch F ns np fr mb j else F 10 j)) 11 (fun j => if j < nt then gp_bn I F j nt else F 11 j))) (G := (gp_uF (gp_uF F 10 (fun j => if j < nt then gp_ch F ns np fr mb j else F 10 j)) 11 (fun j => if j < nt then gp_bn I F j nt else F 11 j))) (a := 12) (b := 13) (by decide) (f := (fun j => if j < 0 then 0 else F 12 j)) (g := (fun j => if j < 0 then 0 else F 13 j)) (by funext j; simp [gp_uF]) (by funext j; simp [gp_uF]) (fun _ _ _ => rfl)]; exact hP) (gp_dd hD rfl) hS
      · have c9 := c9
        have nc9 : ¬ nt ≤ t := fun h => c9 ((nI_leI (a := nt) (b := t) (by omega) (by omega)).mpr h)
        refine lv_aload_n hx hb d_S_find_12 rfl (lv_at hl 2 rfl) ?_
        refine va_get (D := E.1) (cl := gp_cl) (ci := 1) (v := .ref (E.2.2.2 10)) (C := R_D) (T := T_D) (N := 13) hx hb hts i_D hown hK hP 1 rfl rfl 7 (by decide) (hts _ w1_37) (fun _ h9 => h9) rfl d_S_find_13 ?_
        refine lv_iload hx hb d_S_find_16 (lv_at hl 0 rfl) ?_
        refine gp_zld (f := (F 7)) (n := 6) hx hb hK hP 10 rfl (t) rfl (by omega) (by decide) d_S_find_18 ?_
        refine lv_if_eq (tgt := 29) hx hb d_S_find_19 (by decide) (fun c19 => ?_) (fun c19 => ?_)
        · have c19 := c19
          refine lv_iconst (v := 1) hx hb d_S_find_29 (by decide) ?_
          refine lv_goto (tgt := 34) hx hb d_S_find_30 (by decide) ?_
          refine lv_istore (lv' := [(6, .int 1), (5, .int (nI t)), (0, .ref (E.2.2.2 2)), (1, .ref (E.2.2.2 1)), (2, .ref (E.2.2.2 17)), (3, .int fr), (4, .int (nI mb))]) hx hb d_S_find_34 hl (by decide) rfl (fun ls hl => ?_)
          refine lv_aload_n hx hb d_S_find_36 rfl (lv_at hl 3 rfl) ?_
          refine va_get (D := E.1) (cl := gp_cl) (ci := 1) (v := .ref (E.2.2.2 8)) (C := R_D) (T := T_D) (N := 13) hx hb hts i_D hown hK hP 1 rfl rfl 5 (by decide) (hts _ w1_33) (fun _ h9 => h9) rfl d_S_find_37 ?_
          refine lv_iload hx hb d_S_find_40 (lv_at hl 1 rfl) ?_
          refine gp_ald (f := (F 5)) (n := 6) hx hb hK hP 8 rfl (t) rfl (by omega) (by decide) d_S_find_42 ?_
          refine lv_iload_n hx hb d_S_find_43 rfl (lv_at hl 5 rfl) ?_
          refine lv_icmp_ge (tgt := 51) hx hb d_S_find_44 (by decide) (fun c44 => ?_) (fun c44 => ?_)
          · have c44 := c44
            have mc44 : ¬ ((F 5) (t)) < fr := Int32.not_lt.mpr c44
            refine lv_iconst (v := 0) hx hb d_S_find_51 (by decide) ?_
            refine lv_istore (lv' := [(7, .int 0), (6, .int 1), (5, .int (nI t)), (0, .ref (E.2.2.2 2)), (1, .ref (E.2.2.2 1)), (2, .ref (E.2.2.2 17)), (3, .int fr), (4, .int (nI mb))]) hx hb d_S_find_52 hl (by decide) rfl (fun ls hl => ?_)
            refine lv_aload_n hx hb d_S_find_54 rfl (lv_at hl 3 rfl) ?_
            refine va_get (D := E.1) (cl := gp_cl) (ci := 2) (v := .ref (E.2.2.2 13)) (C := R_S) (T := T_S) (N := 9) hx hb hts i_S hown hK hP 2 rfl rfl 2 (by decide) (hts _ w1_91) (fun _ h9 => h9) rfl d_S_find_55 ?_
            refine lv_iload hx hb d_S_find_58 (lv_at hl 2 rfl) ?_
            refine lv_iload hx hb d_S_find_60 (lv_at hl 0 rfl) ?_
            refine lv_if_eq (tgt := 76) hx hb d_S_find_62 (by decide) (fun c62 => ?_) (fun c62 => ?_)
            · have c62 := c62
              have nc62 : 0 = 0 := (nI_eq (a := 0) (b := 0) (by omega) (by omega)).mp c62
              refine lv_aload_n hx hb d_S_find_76 rfl (lv_at hl 3 rfl) ?_
              refine lv_aload_n hx hb d_S_find_77 rfl (lv_at hl 4 rfl) ?_
              refine lv_iload hx hb d_S_find_78 (lv_at hl 2 rfl) ?_
              refine gp_cR (q0 := 2) (ci := 2) (As := [.ref (E.2.2.2 1), .int (nI t)]) (rest := [.int (nI t), .ref (E.2.2.2 13)]) ⟨hx, hb, hml, hown, hts⟩ (c_S_bitsOfSuitingF l E I F (gp_uF (gp_uF F 10 (fun j => if j < t then gp_ch F ns np fr mb j else F 10 j)) 11 (fun j => if j < t then gp_bn I F j nt else F 11 j)) np nt ns t (fun a h => by simp [gp_uF, show a ≠ 10 by omega, show a ≠ 11 by omega]) hp4 hT hN hnp hnt hns (by omega)) (k_S_61 hts ⟨by dsimp only [gp_rm]; omega, by dsimp only [gp_rm]; omega⟩ rfl rfl) hK hP rfl rfl rfl hl.1 rfl (Nat.le_of_ble_eq_true rfl) d_S_find_80 ⟨Nat.le_of_ble_eq_true rfl, Nat.le_of_ble_eq_true rfl⟩ ?_
              refine lv_aload_n hx hb d_S_find_83 rfl (lv_at hl 3 rfl) ?_
              refine lv_iconst (v := (-1)) hx hb d_S_find_84 (by decide) ?_
              refine gp_cR (q0 := 2) (ci := 2) (As := [.int (-1)]) (rest := [.int (gp_bs F ns t np), .int (nI t), .ref (E.2.2.2 13)]) ⟨hx, hb, hml, hown, hts⟩ (c_S_bitOf l E I (gp_uF (gp_uF F 10 (fun j => if j < t then gp_ch F ns np fr mb j else F 10 j)) 11 (fun j => if j < t then gp_bn I F j nt else F 11 j)) (-1)) (k_S_57 hts ⟨by dsimp only [gp_rm]; omega, by dsimp only [gp_rm]; omega⟩ rfl rfl) hK hP rfl rfl rfl hl.1 rfl (Nat.le_of_ble_eq_true rfl) d_S_find_85 ⟨Nat.le_of_ble_eq_true rfl, Nat.le_of_ble_eq_true rfl⟩ ?_
              refine lv_ior hx hb d_S_find_88 ?_
              refine gp_ast (f := (fun j => if j < t then gp_ch F ns np fr mb j else F 10 j)) (n := 6) hx hb hK hP hD hS 13 rfl (t) rfl (by omega) (by decide) d_S_find_89 (fun H locs hP hD hS => ?_)
              have hP : va_P E.1 gp_cl (gp_wG E I (gp_uF (gp_uF (gp_uF F 10 (fun j => if j < t then gp_ch F ns np fr mb j else F 10 j)) 11 (fun j => if j < t then gp_bn I F j nt else F 11 j)) 10 (upd (fun j => if j < t then gp_ch F ns np fr mb j else F 10 j) (t) ((gp_bs F ns t np) ||| (gp_bit (-1)))))) H := hP
              have hD : va_D A (gp_wG E I (gp_uF (gp_uF (gp_uF F 10 (fun j => if j < t then gp_ch F ns np fr mb j else F 10 j)) 11 (fun j => if j < t then gp_bn I F j nt else F 11 j)) 10 (upd (fun j => if j < t then gp_ch F ns np fr mb j else F 10 j) (t) ((gp_bs F ns t np) ||| (gp_bit (-1)))))) := hD
              refine lv_iload hx hb d_S_find_90 (lv_at hl 1 rfl) ?_
              refine lv_if_ne (tgt := 112) hx hb d_S_find_92 (by decide) (fun c92 => ?_) (fun c92 => ?_)
              · have c92 := c92
                have nc92 : ¬ 1 = 0 := fun h => c92 ((nI_eq (a := 1) (b := 0) (by omega) (by omega)).mpr h)
                refine lv_aload_n hx hb d_S_find_112 rfl (lv_at hl 3 rfl) ?_
                refine va_get (D := E.1) (cl := gp_cl) (ci := 2) (v := .ref (E.2.2.2 14)) (C := R_S) (T := T_S) (N := 9) hx hb hts i_S hown hK hP 2 rfl rfl 3 (by decide) (hts _ w1_92) (fun _ h9 => h9) rfl d_S_find_113 ?_
                refine lv_iload hx hb d_S_find_116 (lv_at hl 2 rfl) ?_
                refine lv_aload_n hx hb d_S_find_118 rfl (lv_at hl 3 rfl) ?_
                refine lv_aload_n hx hb d_S_find_119 rfl (lv_at hl 4 rfl) ?_
                refine lv_iload hx hb d_S_find_120 (lv_at hl 2 rfl) ?_
                refine gp_cR (q0 := 2) (ci := 2) (As := [.ref (E.2.2.2 1), .int (nI t)]) (rest := [.int (nI t), .ref (E.2.2.2 14)]) ⟨hx, hb, hml, hown, hts⟩ (c_S_bitsOfTooNearF l E I F (gp_uF (gp_uF (gp_uF F 10 (fun j => if j < t then gp_ch F ns np fr mb j else F 10 j)) 11 (fun j => if j < t then gp_bn I F j nt else F 11 j)) 10 (upd (fun j => if j < t then gp_ch F ns np fr mb j else F 10 j) (t) ((gp_bs F ns t np) ||| (gp_bit (-1))))) nt t (fun a h => by simp [gp_uF, show a ≠ 10 by omega, show a ≠ 11 by omega]) hT hnt (by omega)) (k_S_65 hts ⟨by dsimp only [gp_rm]; omega, by dsimp only [gp_rm]; omega⟩ rfl rfl) hK hP rfl rfl rfl hl.1 rfl (Nat.le_of_ble_eq_true rfl) d_S_find_122 ⟨Nat.le_of_ble_eq_true rfl, Nat.le_of_ble_eq_true rfl⟩ ?_
                refine gp_ast (f := (fun j => if j < t then gp_bn I F j nt else F 11 j)) (n := 6) hx hb hK hP hD hS 14 rfl (t) rfl (by omega) (by decide) d_S_find_125 (fun H locs hP hD hS => ?_)
                have hP : va_P E.1 gp_cl (gp_wG E I (gp_uF (gp_uF (gp_uF (gp_uF F 10 (fun j => if j < t then gp_ch F ns np fr mb j else F 10 j)) 11 (fun j => if j < t then gp_bn I F j nt else F 11 j)) 10 (upd (fun j => if j < t then gp_ch F ns np fr mb j else F 10 j) (t) ((gp_bs F ns t np) ||| (gp_bit (-1))))) 11 (upd (fun j => if j < t then gp_bn I F j nt else F 11 j) (t) (gp_bn I F t nt)))) H := hP
                have hD : va_D A (gp_wG E I (gp_uF (gp_uF (gp_uF (gp_uF F 10 (fun j => if j < t then gp_ch F ns np fr mb j else F 10 j)) 11 (fun j => if j < t then gp_bn I F j nt else F 11 j)) 10 (upd (fun j => if j < t then gp_ch F ns np fr mb j else F 10 j) (t) ((gp_bs F ns t np) ||| (gp_bit (-1))))) 11 (upd (fun j => if j < t then gp_bn I F j nt else F 11 j) (t) (gp_bn I F t nt)))) := hD
                refine lv_iinc (v := (nI (t + 1))) (lv' := [(5, .int (nI (t + 1))), (7, .int 0), (6, .int 1), (0, .ref (E.2.2.2 2)), (1, .ref (E.2.2.2 1)), (2, .ref (E.2.2.2 17)), (3, .int fr), (4, .int (nI mb))]) hx hb d_S_find_126 hl (k := 2) rfl (nI_1 _) (by decide) rfl (fun ls hl => ?_)
                refine lv_goto (tgt := 3) hx hb d_S_find_129 (by decide) ?_
                have hF : (gp_uF (gp_uF (gp_uF (gp_uF F 10 (fun j => if j < t then gp_ch F ns np fr mb j else F 10 j)) 11 (fun j => if j < t then gp_bn I F j nt else F 11 j)) 10 (upd (fun j => if j < t then gp_ch F ns np fr mb j else F 10 j) (t) ((gp_bs F ns t np) ||| (gp_bit (-1))))) 11 (upd (fun j => if j < t then gp_bn I F j nt else F 11 j) (t) (gp_bn I F t nt))) = (gp_uF (gp_uF F 10 (fun j => if j < (t + 1) then gp_ch F ns np fr mb j else F 10 j)) 11 (fun j => if j < (t + 1) then gp_bn I F j nt else F 11 j)) := gp_F2 (by decide) (by first | exact gp_up1 (h := gp_ch F ns np fr mb) (k := F 10) (by simp [gp_ch, gp_c0, h1, c9, nc9, c19, c44, mc44, c62, nc62, c92, nc92]) | exact gp_up2 (h := gp_ch F ns np fr mb) (k := F 10) (by simp [gp_ch, gp_c0, upd, h1, c9, nc9, c19, c44, mc44, c62, nc62, c92, nc92])) (gp_up1 (h := fun j => gp_bn I F j nt) (k := F 11) rfl) (fun c h1 h2 => by simp [gp_uF, h1, h2])
                rw [hF] at hP
                exact ih3 (t + 1) (by omega) (by omega) ls _ _ (lv_sub hl [0, 3, 4, 5, 6, 7] rfl) (hP) (gp_dd hD rfl) hS
              · exact absurd c92 (by decide)
            · exact absurd c62 (by decide)
          · have c44 := c44
            have mc44 : ((F 5) (t)) < fr := Int32.not_le.mp c44
            refine lv_iconst (v := 1) hx hb d_S_find_47 (by decide) ?_
            refine lv_goto (tgt := 52) hx hb d_S_find_48 (by decide) ?_
            refine lv_istore (lv' := [(7, .int 1), (6, .int 1), (5, .int (nI t)), (0, .ref (E.2.2.2 2)), (1, .ref (E.2.2.2 1)), (2, .ref (E.2.2.2 17)), (3, .int fr), (4, .int (nI mb))]) hx hb d_S_find_52 hl (by decide) rfl (fun ls hl => ?_)
            refine lv_aload_n hx hb d_S_find_54 rfl (lv_at hl 3 rfl) ?_
            refine va_get (D := E.1) (cl := gp_cl) (ci := 2) (v := .ref (E.2.2.2 13)) (C := R_S) (T := T_S) (N := 9) hx hb hts i_S hown hK hP 2 rfl rfl 2 (by decide) (hts _ w1_91) (fun _ h9 => h9) rfl d_S_find_55 ?_
            refine lv_iload hx hb d_S_find_58 (lv_at hl 2 rfl) ?_
            refine lv_iload hx hb d_S_find_60 (lv_at hl 0 rfl) ?_
            refine lv_if_eq (tgt := 76) hx hb d_S_find_62 (by decide) (fun c62 => ?_) (fun c62 => ?_)
            · exact absurd c62 (by decide)
            · have c62 := c62
              have nc62 : ¬ 1 = 0 := fun h => c62 ((nI_eq (a := 1) (b := 0) (by omega) (by omega)).mpr h)
              refine lv_aload_n hx hb d_S_find_65 rfl (lv_at hl 3 rfl) ?_
              refine lv_aload_n hx hb d_S_find_66 rfl (lv_at hl 5 rfl) ?_
              refine lv_iload hx hb d_S_find_67 (lv_at hl 2 rfl) ?_
              refine gp_ald (f := (F 14)) (n := 6) hx hb hK hP 17 rfl (t) rfl (by omega) (by decide) d_S_find_69 ?_
              refine gp_cR (q0 := 2) (ci := 2) (As := [.int ((F 14) (t))]) (rest := [.int (nI t), .ref (E.2.2.2 13)]) ⟨hx, hb, hml, hown, hts⟩ (c_S_bitOf l E I (gp_uF (gp_uF F 10 (fun j => if j < t then gp_ch F ns np fr mb j else F 10 j)) 11 (fun j => if j < t then gp_bn I F j nt else F 11 j)) (F 14 t)) (k_S_57 hts ⟨by dsimp only [gp_rm]; omega, by dsimp only [gp_rm]; omega⟩ rfl rfl) hK hP rfl rfl rfl hl.1 rfl (Nat.le_of_ble_eq_true rfl) d_S_find_70 ⟨Nat.le_of_ble_eq_true rfl, Nat.le_of_ble_eq_true rfl⟩ ?_
              refine lv_goto (tgt := 89) hx hb d_S_find_73 (by decide) ?_
              refine gp_ast (f := (fun j => if j < t then gp_ch F ns np fr mb j else F 10 j)) (n := 6) hx hb hK hP hD hS 13 rfl (t) rfl (by omega) (by decide) d_S_find_89 (fun H locs hP hD hS => ?_)
              have hP : va_P E.1 gp_cl (gp_wG E I (gp_uF (gp_uF (gp_uF F 10 (fun j => if j < t then gp_ch F ns np fr mb j else F 10 j)) 11 (fun j => if j < t then gp_bn I F j nt else F 11 j)) 10 (upd (fun j => if j < t then gp_ch F ns np fr mb j else F 10 j) (t) (gp_bit (F 14 t))))) H := hP
              have hD : va_D A (gp_wG E I (gp_uF (gp_uF (gp_uF F 10 (fun j => if j < t then gp_ch F ns np fr mb j else F 10 j)) 11 (fun j => if j < t then gp_bn I F j nt else F 11 j)) 10 (upd (fun j => if j < t then gp_ch F ns np fr mb j else F 10 j) (t) (gp_bit (F 14 t))))) := hD
              refine lv_iload hx hb d_S_find_90 (lv_at hl 1 rfl) ?_
              refine lv_if_ne (tgt := 112) hx hb d_S_find_92 (by decide) (fun c92 => ?_) (fun c92 => ?_)
              · have c92 := c92
                have nc92 : ¬ 1 = 0 := fun h => c92 ((nI_eq (a := 1) (b := 0) (by omega) (by omega)).mpr h)
                refine lv_aload_n hx hb d_S_find_112 rfl (lv_at hl 3 rfl) ?_
                refine va_get (D := E.1) (cl := gp_cl) (ci := 2) (v := .ref (E.2.2.2 14)) (C := R_S) (T := T_S) (N := 9) hx hb hts i_S hown hK hP 2 rfl rfl 3 (by decide) (hts _ w1_92) (fun _ h9 => h9) rfl d_S_find_113 ?_
                refine lv_iload hx hb d_S_find_116 (lv_at hl 2 rfl) ?_
                refine lv_aload_n hx hb d_S_find_118 rfl (lv_at hl 3 rfl) ?_
                refine lv_aload_n hx hb d_S_find_119 rfl (lv_at hl 4 rfl) ?_
                refine lv_iload hx hb d_S_find_120 (lv_at hl 2 rfl) ?_
                refine gp_cR (q0 := 2) (ci := 2) (As := [.ref (E.2.2.2 1), .int (nI t)]) (rest := [.int (nI t), .ref (E.2.2.2 14)]) ⟨hx, hb, hml, hown, hts⟩ (c_S_bitsOfTooNearF l E I F (gp_uF (gp_uF (gp_uF F 10 (fun j => if j < t then gp_ch F ns np fr mb j else F 10 j)) 11 (fun j => if j < t then gp_bn I F j nt else F 11 j)) 10 (upd (fun j => if j < t then gp_ch F ns np fr mb j else F 10 j) (t) (gp_bit (F 14 t)))) nt t (fun a h => by simp [gp_uF, show a ≠ 10 by omega, show a ≠ 11 by omega]) hT hnt (by omega)) (k_S_65 hts ⟨by dsimp only [gp_rm]; omega, by dsimp only [gp_rm]; omega⟩ rfl rfl) hK hP rfl rfl rfl hl.1 rfl (Nat.le_of_ble_eq_true rfl) d_S_find_122 ⟨Nat.le_of_ble_eq_true rfl, Nat.le_of_ble_eq_true rfl⟩ ?_
                refine gp_ast (f := (fun j => if j < t then gp_bn I F j nt else F 11 j)) (n := 6) hx hb hK hP hD hS 14 rfl (t) rfl (by omega) (by decide) d_S_find_125 (fun H locs hP hD hS => ?_)
                have hP : va_P E.1 gp_cl (gp_wG E I (gp_uF (gp_uF (gp_uF (gp_uF F 10 (fun j => if j < t then gp_ch F ns np fr mb j else F 10 j)) 11 (fun j => if j < t then gp_bn I F j nt else F 11 j)) 10 (upd (fun j => if j < t then gp_ch F ns np fr mb j else F 10 j) (t) (gp_bit (F 14 t)))) 11 (upd (fun j => if j < t then gp_bn I F j nt else F 11 j) (t) (gp_bn I F t nt)))) H := hP
                have hD : va_D A (gp_wG E I (gp_uF (gp_uF (gp_uF (gp_uF F 10 (fun j => if j < t then gp_ch F ns np fr mb j else F 10 j)) 11 (fun j => if j < t then gp_bn I F j nt else F 11 j)) 10 (upd (fun j => if j < t then gp_ch F ns np fr mb j else F 10 j) (t) (gp_bit (F 14 t)))) 11 (upd (fun j => if j < t then gp_bn I F j nt else F 11 j) (t) (gp_bn I F t nt)))) := hD
                refine lv_iinc (v := (nI (t + 1))) (lv' := [(5, .int (nI (t + 1))), (7, .int 1), (6, .int 1), (0, .ref (E.2.2.2 2)), (1, .ref (E.2.2.2 1)), (2, .ref (E.2.2.2 17)), (3, .int fr), (4, .int (nI mb))]) hx hb d_S_find_126 hl (k := 2) rfl (nI_1 _) (by decide) rfl (fun ls hl => ?_)
                refine lv_goto (tgt := 3) hx hb d_S_find_129 (by decide) ?_
                have hF : (gp_uF (gp_uF (gp_uF (gp_uF F 10 (fun j => if j < t then gp_ch F ns np fr mb j else F 10 j)) 11 (fun j => if j < t then gp_bn I F j nt else F 11 j)) 10 (upd (fun j => if j < t then gp_ch F ns np fr mb j else F 10 j) (t) (gp_bit (F 14 t)))) 11 (upd (fun j => if j < t then gp_bn I F j nt else F 11 j) (t) (gp_bn I F t nt))) = (gp_uF (gp_uF F 10 (fun j => if j < (t + 1) then gp_ch F ns np fr mb j else F 10 j)) 11 (fun j => if j < (t + 1) then gp_bn I F j nt else F 11 j)) := gp_F2 (by decide) (by first | exact gp_up1 (h := gp_ch F ns np fr mb) (k := F 10) (by simp [gp_ch, gp_c0, h1, c9, nc9, c19, c44, mc44, c62, nc62, c92, nc92]) | exact gp_up2 (h := gp_ch F ns np fr mb) (k := F 10) (by simp [gp_ch, gp_c0, upd, h1, c9, nc9, c19, c44, mc44, c62, nc62, c92, nc92])) (gp_up1 (h := fun j => gp_bn I F j nt) (k := F 11) rfl) (fun c h1 h2 => by simp [gp_uF, h1, h2])
                rw [hF] at hP
                exact ih3 (t + 1) (by omega) (by omega) ls _ _ (lv_sub hl [0, 3, 4, 5, 6, 7] rfl) (hP) (gp_dd hD rfl) hS
              · exact absurd c92 (by decide)
        · have c19 := c19
          refine lv_iload hx hb d_S_find_22 (lv_at hl 0 rfl) ?_
          refine lv_iload hx hb d_S_find_24 (lv_at hl 5 rfl) ?_
          refine lv_icmp_lt (tgt := 33) hx hb d_S_find_26 (by decide) (fun c26 => ?_) (fun c26 => ?_)
          · have c26 := c26
            have nc26 : t < mb := (nI_ltI (a := t) (b := mb) (by omega) (by omega)).mp c26
            refine lv_iconst (v := 0) hx hb d_S_find_33 (by decide) ?_
            refine lv_istore (lv' := [(6, .int 0), (5, .int (nI t)), (0, .ref (E.2.2.2 2)), (1, .ref (E.2.2.2 1)), (2, .ref (E.2.2.2 17)), (3, .int fr), (4, .int (nI mb))]) hx hb d_S_find_34 hl (by decide) rfl (fun ls hl => ?_)
            refine lv_aload_n hx hb d_S_find_36 rfl (lv_at hl 3 rfl) ?_
            refine va_get (D := E.1) (cl := gp_cl) (ci := 1) (v := .ref (E.2.2.2 8)) (C := R_D) (T := T_D) (N := 13) hx hb hts i_D hown hK hP 1 rfl rfl 5 (by decide) (hts _ w1_33) (fun _ h9 => h9) rfl d_S_find_37 ?_
            refine lv_iload hx hb d_S_find_40 (lv_at hl 1 rfl) ?_
            refine gp_ald (f := (F 5)) (n := 6) hx hb hK hP 8 rfl (t) rfl (by omega) (by decide) d_S_find_42 ?_
            refine lv_iload_n hx hb d_S_find_43 rfl (lv_at hl 5 rfl) ?_
            refine lv_icmp_ge (tgt := 51) hx hb d_S_find_44 (by decide) (fun c44 => ?_) (fun c44 => ?_)
            · have c44 := c44
              have mc44 : ¬ ((F 5) (t)) < fr := Int32.not_lt.mpr c44
              refine lv_iconst (v := 0) hx hb d_S_find_51 (by decide) ?_
              refine lv_istore (lv' := [(7, .int 0), (6, .int 0), (5, .int (nI t)), (0, .ref (E.2.2.2 2)), (1, .ref (E.2.2.2 1)), (2, .ref (E.2.2.2 17)), (3, .int fr), (4, .int (nI mb))]) hx hb d_S_find_52 hl (by decide) rfl (fun ls hl => ?_)
              refine lv_aload_n hx hb d_S_find_54 rfl (lv_at hl 3 rfl) ?_
              refine va_get (D := E.1) (cl := gp_cl) (ci := 2) (v := .ref (E.2.2.2 13)) (C := R_S) (T := T_S) (N := 9) hx hb hts i_S hown hK hP 2 rfl rfl 2 (by decide) (hts _ w1_91) (fun _ h9 => h9) rfl d_S_find_55 ?_
              refine lv_iload hx hb d_S_find_58 (lv_at hl 2 rfl) ?_
              refine lv_iload hx hb d_S_find_60 (lv_at hl 0 rfl) ?_
              refine lv_if_eq (tgt := 76) hx hb d_S_find_62 (by decide) (fun c62 => ?_) (fun c62 => ?_)
              · have c62 := c62
                have nc62 : 0 = 0 := (nI_eq (a := 0) (b := 0) (by omega) (by omega)).mp c62
                refine lv_aload_n hx hb d_S_find_76 rfl (lv_at hl 3 rfl) ?_
                refine lv_aload_n hx hb d_S_find_77 rfl (lv_at hl 4 rfl) ?_
                refine lv_iload hx hb d_S_find_78 (lv_at hl 2 rfl) ?_
                refine gp_cR (q0 := 2) (ci := 2) (As := [.ref (E.2.2.2 1), .int (nI t)]) (rest := [.int (nI t), .ref (E.2.2.2 13)]) ⟨hx, hb, hml, hown, hts⟩ (c_S_bitsOfSuitingF l E I F (gp_uF (gp_uF F 10 (fun j => if j < t then gp_ch F ns np fr mb j else F 10 j)) 11 (fun j => if j < t then gp_bn I F j nt else F 11 j)) np nt ns t (fun a h => by simp [gp_uF, show a ≠ 10 by omega, show a ≠ 11 by omega]) hp4 hT hN hnp hnt hns (by omega)) (k_S_61 hts ⟨by dsimp only [gp_rm]; omega, by dsimp only [gp_rm]; omega⟩ rfl rfl) hK hP rfl rfl rfl hl.1 rfl (Nat.le_of_ble_eq_true rfl) d_S_find_80 ⟨Nat.le_of_ble_eq_true rfl, Nat.le_of_ble_eq_true rfl⟩ ?_
                refine lv_aload_n hx hb d_S_find_83 rfl (lv_at hl 3 rfl) ?_
                refine lv_iconst (v := (-1)) hx hb d_S_find_84 (by decide) ?_
                refine gp_cR (q0 := 2) (ci := 2) (As := [.int (-1)]) (rest := [.int (gp_bs F ns t np), .int (nI t), .ref (E.2.2.2 13)]) ⟨hx, hb, hml, hown, hts⟩ (c_S_bitOf l E I (gp_uF (gp_uF F 10 (fun j => if j < t then gp_ch F ns np fr mb j else F 10 j)) 11 (fun j => if j < t then gp_bn I F j nt else F 11 j)) (-1)) (k_S_57 hts ⟨by dsimp only [gp_rm]; omega, by dsimp only [gp_rm]; omega⟩ rfl rfl) hK hP rfl rfl rfl hl.1 rfl (Nat.le_of_ble_eq_true rfl) d_S_find_85 ⟨Nat.le_of_ble_eq_true rfl, Nat.le_of_ble_eq_true rfl⟩ ?_
                refine lv_ior hx hb d_S_find_88 ?_
                refine gp_ast (f := (fun j => if j < t then gp_ch F ns np fr mb j else F 10 j)) (n := 6) hx hb hK hP hD hS 13 rfl (t) rfl (by omega) (by decide) d_S_find_89 (fun H locs hP hD hS => ?_)
                have hP : va_P E.1 gp_cl (gp_wG E I (gp_uF (gp_uF (gp_uF F 10 (fun j => if j < t then gp_ch F ns np fr mb j else F 10 j)) 11 (fun j => if j < t then gp_bn I F j nt else F 11 j)) 10 (upd (fun j => if j < t then gp_ch F ns np fr mb j else F 10 j) (t) ((gp_bs F ns t np) ||| (gp_bit (-1)))))) H := hP
                have hD : va_D A (gp_wG E I (gp_uF (gp_uF (gp_uF F 10 (fun j => if j < t then gp_ch F ns np fr mb j else F 10 j)) 11 (fun j => if j < t then gp_bn I F j nt else F 11 j)) 10 (upd (fun j => if j < t then gp_ch F ns np fr mb j else F 10 j) (t) ((gp_bs F ns t np) ||| (gp_bit (-1)))))) := hD
                refine lv_iload hx hb d_S_find_90 (lv_at hl 1 rfl) ?_
                refine lv_if_ne (tgt := 112) hx hb d_S_find_92 (by decide) (fun c92 => ?_) (fun c92 => ?_)
                · exact absurd c92 (by decide)
                · have c92 := c92
                  have nc92 : 0 = 0 := (nI_eq (a := 0) (b := 0) (by omega) (by omega)).mp c92
                  refine lv_aload_n hx hb d_S_find_95 rfl (lv_at hl 3 rfl) ?_
                  refine va_get (D := E.1) (cl := gp_cl) (ci := 2) (v := .ref (E.2.2.2 13)) (C := R_S) (T := T_S) (N := 9) hx hb hts i_S hown hK hP 2 rfl rfl 2 (by decide) (hts _ w1_91) (fun _ h9 => h9) rfl d_S_find_96 ?_
                  refine lv_iload hx hb d_S_find_99 (lv_at hl 2 rfl) ?_
                  refine lv_dup2_11 hx hb d_S_find_101 rfl rfl ?_
                  refine gp_ald (f := (upd (fun j => if j < t then gp_ch F ns np fr mb j else F 10 j) (t) ((gp_bs F ns t np) ||| (gp_bit (-1))))) (n := 6) hx hb hK hP 13 rfl (t) rfl (by omega) (by decide) d_S_find_102 ?_
                  refine lv_aload_n hx hb d_S_find_103 rfl (lv_at hl 3 rfl) ?_
                  refine lv_iconst (v := (-1)) hx hb d_S_find_104 (by decide) ?_
                  refine gp_cR (q0 := 2) (ci := 2) (As := [.int (-1)]) (rest := [.int ((upd (fun j => if j < t then gp_ch F ns np fr mb j else F 10 j) (t) ((gp_bs F ns t np) ||| (gp_bit (-1)))) (t)), .int (nI t), .ref (E.2.2.2 13)]) ⟨hx, hb, hml, hown, hts⟩ (c_S_bitOf l E I (gp_uF (gp_uF (gp_uF F 10 (fun j => if j < t then gp_ch F ns np fr mb j else F 10 j)) 11 (fun j => if j < t then gp_bn I F j nt else F 11 j)) 10 (upd (fun j => if j < t then gp_ch F ns np fr mb j else F 10 j) (t) ((gp_bs F ns t np) ||| (gp_bit (-1))))) (-1)) (k_S_57 hts ⟨by dsimp only [gp_rm]; omega, by dsimp only [gp_rm]; omega⟩ rfl rfl) hK hP rfl rfl rfl hl.1 rfl (Nat.le_of_ble_eq_true rfl) d_S_find_105 ⟨Nat.le_of_ble_eq_true rfl, Nat.le_of_ble_eq_true rfl⟩ ?_
                  refine lv_iconst (v := (-1)) hx hb d_S_find_108 (by decide) ?_
                  refine lv_ixor hx hb d_S_find_109 ?_
                  refine lv_iand hx hb d_S_find_110 ?_
                  refine gp_ast (f := (upd (fun j => if j < t then gp_ch F ns np fr mb j else F 10 j) (t) ((gp_bs F ns t np) ||| (gp_bit (-1))))) (n := 6) hx hb hK hP hD hS 13 rfl (t) rfl (by omega) (by decide) d_S_find_111 (fun H locs hP hD hS => ?_)
                  have hP : va_P E.1 gp_cl (gp_wG E I (gp_uF (gp_uF (gp_uF (gp_uF F 10 (fun j => if j < t then gp_ch F ns np fr mb j else F 10 j)) 11 (fun j => if j < t then gp_bn I F j nt else F 11 j)) 10 (upd (fun j => if j < t then gp_ch F ns np fr mb j else F 10 j) (t) ((gp_bs F ns t np) ||| (gp_bit (-1))))) 10 (upd (upd (fun j => if j < t then gp_ch F ns np fr mb j else F 10 j) (t) ((gp_bs F ns t np) ||| (gp_bit (-1)))) (t) (((upd (fun j => if j < t then gp_ch F ns np fr mb j else F 10 j) (t) ((gp_bs F ns t np) ||| (gp_bit (-1)))) (t)) &&& ((gp_bit (-1)) ^^^ (-1)))))) H := hP
                  have hD : va_D A (gp_wG E I (gp_uF (gp_uF (gp_uF (gp_uF F 10 (fun j => if j < t then gp_ch F ns np fr mb j else F 10 j)) 11 (fun j => if j < t then gp_bn I F j nt else F 11 j)) 10 (upd (fun j => if j < t then gp_ch F ns np fr mb j else F 10 j) (t) ((gp_bs F ns t np) ||| (gp_bit (-1))))) 10 (upd (upd (fun j => if j < t then gp_ch F ns np fr mb j else F 10 j) (t) ((gp_bs F ns t np) ||| (gp_bit (-1)))) (t) (((upd (fun j => if j < t then gp_ch F ns np fr mb j else F 10 j) (t) ((gp_bs F ns t np) ||| (gp_bit (-1)))) (t)) &&& ((gp_bit (-1)) ^^^ (-1)))))) := hD
                  refine lv_aload_n hx hb d_S_find_112 rfl (lv_at hl 3 rfl) ?_
                  refine va_get (D := E.1) (cl := gp_cl) (ci := 2) (v := .ref (E.2.2.2 14)) (C := R_S) (T := T_S) (N := 9) hx hb hts i_S hown hK hP 2 rfl rfl 3 (by decide) (hts _ w1_92) (fun _ h9 => h9) rfl d_S_find_113 ?_
                  refine lv_iload hx hb d_S_find_116 (lv_at hl 2 rfl) ?_
                  refine lv_aload_n hx hb d_S_find_118 rfl (lv_at hl 3 rfl) ?_
                  refine lv_aload_n hx hb d_S_find_119 rfl (lv_at hl 4 rfl) ?_
                  refine lv_iload hx hb d_S_find_120 (lv_at hl 2 rfl) ?_
                  refine gp_cR (q0 := 2) (ci := 2) (As := [.ref (E.2.2.2 1), .int (nI t)]) (rest := [.int (nI t), .ref (E.2.2.2 14)]) ⟨hx, hb, hml, hown, hts⟩ (c_S_bitsOfTooNearF l E I F (gp_uF (gp_uF (gp_uF (gp_uF F 10 (fun j => if j < t then gp_ch F ns np fr mb j else F 10 j)) 11 (fun j => if j < t then gp_bn I F j nt else F 11 j)) 10 (upd (fun j => if j < t then gp_ch F ns np fr mb j else F 10 j) (t) ((gp_bs F ns t np) ||| (gp_bit (-1))))) 10 (upd (upd (fun j => if j < t then gp_ch F ns np fr mb j else F 10 j) (t) ((gp_bs F ns t np) ||| (gp_bit (-1)))) (t) (((upd (fun j => if j < t then gp_ch F ns np fr mb j else F 10 j) (t) ((gp_bs F ns t np) ||| (gp_bit (-1)))) (t)) &&& ((gp_bit (-1)) ^^^ (-1))))) nt t (fun a h => by simp [gp_uF, show a ≠ 10 by omega, show a ≠ 11 by omega]) hT hnt (by omega)) (k_S_65 hts ⟨by dsimp only [gp_rm]; omega, by dsimp only [gp_rm]; omega⟩ rfl rfl) hK hP rfl rfl rfl hl.1 rfl (Nat.le_of_ble_eq_true rfl) d_S_find_122 ⟨Nat.le_of_ble_eq_true rfl, Nat.le_of_ble_eq_true rfl⟩ ?_
                  refine gp_ast (f := (fun j => if j < t then gp_bn I F j nt else F 11 j)) (n := 6) hx hb hK hP hD hS 14 rfl (t) rfl (by omega) (by decide) d_S_find_125 (fun H locs hP hD hS => ?_)
                  have hP : va_P E.1 gp_cl (gp_wG E I (gp_uF (gp_uF (gp_uF (gp_uF (gp_uF F 10 (fun j => if j < t then gp_ch F ns np fr mb j else F 10 j)) 11 (fun j => if j < t then gp_bn I F j nt else F 11 j)) 10 (upd (fun j => if j < t then gp_ch F ns np fr mb j else F 10 j) (t) ((gp_bs F ns t np) ||| (gp_bit (-1))))) 10 (upd (upd (fun j => if j < t then gp_ch F ns np fr mb j else F 10 j) (t) ((gp_bs F ns t np) ||| (gp_bit (-1)))) (t) (((upd (fun j => if j < t then gp_ch F ns np fr mb j else F 10 j) (t) ((gp_bs F ns t np) ||| (gp_bit (-1)))) (t)) &&& ((gp_bit (-1)) ^^^ (-1))))) 11 (upd (fun j => if j < t then gp_bn I F j nt else F 11 j) (t) (gp_bn I F t nt)))) H := hP
                  have hD : va_D A (gp_wG E I (gp_uF (gp_uF (gp_uF (gp_uF (gp_uF F 10 (fun j => if j < t then gp_ch F ns np fr mb j else F 10 j)) 11 (fun j => if j < t then gp_bn I F j nt else F 11 j)) 10 (upd (fun j => if j < t then gp_ch F ns np fr mb j else F 10 j) (t) ((gp_bs F ns t np) ||| (gp_bit (-1))))) 10 (upd (upd (fun j => if j < t then gp_ch F ns np fr mb j else F 10 j) (t) ((gp_bs F ns t np) ||| (gp_bit (-1)))) (t) (((upd (fun j => if j < t then gp_ch F ns np fr mb j else F 10 j) (t) ((gp_bs F ns t np) ||| (gp_bit (-1)))) (t)) &&& ((gp_bit (-1)) ^^^ (-1))))) 11 (upd (fun j => if j < t then gp_bn I F j nt else F 11 j) (t) (gp_bn I F t nt)))) := hD
                  refine lv_iinc (v := (nI (t + 1))) (lv' := [(5, .int (nI (t + 1))), (7, .int 0), (6, .int 0), (0, .ref (E.2.2.2 2)), (1, .ref (E.2.2.2 1)), (2, .ref (E.2.2.2 17)), (3, .int fr), (4, .int (nI mb))]) hx hb d_S_find_126 hl (k := 2) rfl (nI_1 _) (by decide) rfl (fun ls hl => ?_)
                  refine lv_goto (tgt := 3) hx hb d_S_find_129 (by decide) ?_
                  have hF : (gp_uF (gp_uF (gp_uF (gp_uF (gp_uF F 10 (fun j => if j < t then gp_ch F ns np fr mb j else F 10 j)) 11 (fun j => if j < t then gp_bn I F j nt else F 11 j)) 10 (upd (fun j => if j < t then gp_ch F ns np fr mb j else F 10 j) (t) ((gp_bs F ns t np) ||| (gp_bit (-1))))) 10 (upd (upd (fun j => if j < t then gp_ch F ns np fr mb j else F 10 j) (t) ((gp_bs F ns t np) ||| (gp_bit (-1)))) (t) (((upd (fun j => if j < t then gp_ch F ns np fr mb j else F 10 j) (t) ((gp_bs F ns t np) ||| (gp_bit (-1)))) (t)) &&& ((gp_bit (-1)) ^^^ (-1))))) 11 (upd (fun j => if j < t then gp_bn I F j nt else F 11 j) (t) (gp_bn I F t nt))) = (gp_uF (gp_uF F 10 (fun j => if j < (t + 1) then gp_ch F ns np fr mb j else F 10 j)) 11 (fun j => if j < (t + 1) then gp_bn I F j nt else F 11 j)) := gp_F2 (by decide) (by first | exact gp_up1 (h := gp_ch F ns np fr mb) (k := F 10) (by simp [gp_ch, gp_c0, h1, c9, nc9, c19, c26, nc26, c44, mc44, c62, nc62, c92, nc92]) | exact gp_up2 (h := gp_ch F ns np fr mb) (k := F 10) (by simp [gp_ch, gp_c0, upd, h1, c9, nc9, c19, c26, nc26, c44, mc44, c62, nc62, c92, nc92])) (gp_up1 (h := fun j => gp_bn I F j nt) (k := F 11) rfl) (fun c h1 h2 => by simp [gp_uF, h1, h2])
                  rw [hF] at hP
                  exact ih3 (t + 1) (by omega) (by omega) ls _ _ (lv_sub hl [0, 3, 4, 5, 6, 7] rfl) (hP) (gp_dd hD rfl) hS
              · exact absurd c62 (by decide)
            · have c44 := c44
              have mc44 : ((F 5) (t)) < fr := Int32.not_le.mp c44
              refine lv_iconst (v := 1) hx hb d_S_find_47 (by decide) ?_
              refine lv_goto (tgt := 52) hx hb d_S_find_48 (by decide) ?_
              refine lv_istore (lv' := [(7, .int 1), (6, .int 0), (5, .int (nI t)), (0, .ref (E.2.2.2 2)), (1, .ref (E.2.2.2 1)), (2, .ref (E.2.2.2 17)), (3, .int fr), (4, .int (nI mb))]) hx hb d_S_find_52 hl (by decide) rfl (fun ls hl => ?_)
              refine lv_aload_n hx hb d_S_find_54 rfl (lv_at hl 3 rfl) ?_
              refine va_get (D := E.1) (cl := gp_cl) (ci := 2) (v := .ref (E.2.2.2 13)) (C := R_S) (T := T_S) (N := 9) hx hb hts i_S hown hK hP 2 rfl rfl 2 (by decide) (hts _ w1_91) (fun _ h9 => h9) rfl d_S_find_55 ?_
              refine lv_iload hx hb d_S_find_58 (lv_at hl 2 rfl) ?_
              refine lv_iload hx hb d_S_find_60 (lv_at hl 0 rfl) ?_
              refine lv_if_eq (tgt := 76) hx hb d_S_find_62 (by decide) (fun c62 => ?_) (fun c62 => ?_)
              · exact absurd c62 (by decide)
              · have c62 := c62
                have nc62 : ¬ 1 = 0 := fun h => c62 ((nI_eq (a := 1) (b := 0) (by omega) (by omega)).mpr h)
                refine lv_aload_n hx hb d_S_find_65 rfl (lv_at hl 3 rfl) ?_
                refine lv_aload_n hx hb d_S_find_66 rfl (lv_at hl 5 rfl) ?_
                refine lv_iload hx hb d_S_find_67 (lv_at hl 2 rfl) ?_
                refine gp_ald (f := (F 14)) (n := 6) hx hb hK hP 17 rfl (t) rfl (by omega) (by decide) d_S_find_69 ?_
                refine gp_cR (q0 := 2) (ci := 2) (As := [.int ((F 14) (t))]) (rest := [.int (nI t), .ref (E.2.2.2 13)]) ⟨hx, hb, hml, hown, hts⟩ (c_S_bitOf l E I (gp_uF (gp_uF F 10 (fun j => if j < t then gp_ch F ns np fr mb j else F 10 j)) 11 (fun j => if j < t then gp_bn I F j nt else F 11 j)) (F 14 t)) (k_S_57 hts ⟨by dsimp only [gp_rm]; omega, by dsimp only [gp_rm]; omega⟩ rfl rfl) hK hP rfl rfl rfl hl.1 rfl (Nat.le_of_ble_eq_true rfl) d_S_find_70 ⟨Nat.le_of_ble_eq_true rfl, Nat.le_of_ble_eq_true rfl⟩ ?_
                refine lv_goto (tgt := 89) hx hb d_S_find_73 (by decide) ?_
                refine gp_ast (f := (fun j => if j < t then gp_ch F ns np fr mb j else F 10 j)) (n := 6) hx hb hK hP hD hS 13 rfl (t) rfl (by omega) (by decide) d_S_find_89 (fun H locs hP hD hS => ?_)
                have hP : va_P E.1 gp_cl (gp_wG E I (gp_uF (gp_uF (gp_uF F 10 (fun j => if j < t then gp_ch F ns np fr mb j else F 10 j)) 11 (fun j => if j < t then gp_bn I F j nt else F 11 j)) 10 (upd (fun j => if j < t then gp_ch F ns np fr mb j else F 10 j) (t) (gp_bit (F 14 t))))) H := hP
                have hD : va_D A (gp_wG E I (gp_uF (gp_uF (gp_uF F 10 (fun j => if j < t then gp_ch F ns np fr mb j else F 10 j)) 11 (fun j => if j < t then gp_bn I F j nt else F 11 j)) 10 (upd (fun j => if j < t then gp_ch F ns np fr mb j else F 10 j) (t) (gp_bit (F 14 t))))) := hD
                refine lv_iload hx hb d_S_find_90 (lv_at hl 1 rfl) ?_
                refine lv_if_ne (tgt := 112) hx hb d_S_find_92 (by decide) (fun c92 => ?_) (fun c92 => ?_)
                · exact absurd c92 (by decide)
                · have c92 := c92
                  have nc92 : 0 = 0 := (nI_eq (a := 0) (b := 0) (by omega) (by omega)).mp c92
                  refine lv_aload_n hx hb d_S_find_95 rfl (lv_at hl 3 rfl) ?_
                  refine va_get (D := E.1) (cl := gp_cl) (ci := 2) (v := .ref (E.2.2.2 13)) (C := R_S) (T := T_S) (N := 9) hx hb hts i_S hown hK hP 2 rfl rfl 2 (by decide) (hts _ w1_91) (fun _ h9 => h9) rfl d_S_find_96 ?_
                  refine lv_iload hx hb d_S_find_99 (lv_at hl 2 rfl) ?_
                  refine lv_dup2_11 hx hb d_S_find_101 rfl rfl ?_
                  refine gp_ald (f := (upd (fun j => if j < t then gp_ch F ns np fr mb j else F 10 j) (t) (gp_bit (F 14 t)))) (n := 6) hx hb hK hP 13 rfl (t) rfl (by omega) (by decide) d_S_find_102 ?_
                  refine lv_aload_n hx hb d_S_find_103 rfl (lv_at hl 3 rfl) ?_
                  refine lv_iconst (v := (-1)) hx hb d_S_find_104 (by decide) ?_
                  refine gp_cR (q0 := 2) (ci := 2) (As := [.int (-1)]) (rest := [.int ((upd (fun j => if j < t then gp_ch F ns np fr mb j else F 10 j) (t) (gp_bit (F 14 t))) (t)), .int (nI t), .ref (E.2.2.2 13)]) ⟨hx, hb, hml, hown, hts⟩ (c_S_bitOf l E I (gp_uF (gp_uF (gp_uF F 10 (fun j => if j < t then gp_ch F ns np fr mb j else F 10 j)) 11 (fun j => if j < t then gp_bn I F j nt else F 11 j)) 10 (upd (fun j => if j < t then gp_ch F ns np fr mb j else F 10 j) (t) (gp_bit (F 14 t)))) (-1)) (k_S_57 hts ⟨by dsimp only [gp_rm]; omega, by dsimp only [gp_rm]; omega⟩ rfl rfl) hK hP rfl rfl rfl hl.1 rfl (Nat.le_of_ble_eq_true rfl) d_S_find_105 ⟨Nat.le_of_ble_eq_true rfl, Nat.le_of_ble_eq_true rfl⟩ ?_
                  refine lv_iconst (v := (-1)) hx hb d_S_find_108 (by decide) ?_
                  refine lv_ixor hx hb d_S_find_109 ?_
                  refine lv_iand hx hb d_S_find_110 ?_
                  refine gp_ast (f := (upd (fun j => if j < t then gp_ch F ns np fr mb j else F 10 j) (t) (gp_bit (F 14 t)))) (n := 6) hx hb hK hP hD hS 13 rfl (t) rfl (by omega) (by decide) d_S_find_111 (fun H locs hP hD hS => ?_)
                  have hP : va_P E.1 gp_cl (gp_wG E I (gp_uF (gp_uF (gp_uF (gp_uF F 10 (fun j => if j < t then gp_ch F ns np fr mb j else F 10 j)) 11 (fun j => if j < t then gp_bn I F j nt else F 11 j)) 10 (upd (fun j => if j < t then gp_ch F ns np fr mb j else F 10 j) (t) (gp_bit (F 14 t)))) 10 (upd (upd (fun j => if j < t then gp_ch F ns np fr mb j else F 10 j) (t) (gp_bit (F 14 t))) (t) (((upd (fun j => if j < t then gp_ch F ns np fr mb j else F 10 j) (t) (gp_bit (F 14 t))) (t)) &&& ((gp_bit (-1)) ^^^ (-1)))))) H := hP
                  have hD : va_D A (gp_wG E I (gp_uF (gp_uF (gp_uF (gp_uF F 10 (fun j => if j < t then gp_ch F ns np fr mb j else F 10 j)) 11 (fun j => if j < t then gp_bn I F j nt else F 11 j)) 10 (upd (fun j => if j < t then gp_ch F ns np fr mb j else F 10 j) (t) (gp_bit (F 14 t)))) 10 (upd (upd (fun j => if j < t then gp_ch F ns np fr mb j else F 10 j) (t) (gp_bit (F 14 t))) (t) (((upd (fun j => if j < t then gp_ch F ns np fr mb j else F 10 j) (t) (gp_bit (F 14 t))) (t)) &&& ((gp_bit (-1)) ^^^ (-1)))))) := hD
                  refine lv_aload_n hx hb d_S_find_112 rfl (lv_at hl 3 rfl) ?_
                  refine va_get (D := E.1) (cl := gp_cl) (ci := 2) (v := .ref (E.2.2.2 14)) (C := R_S) (T := T_S) (N := 9) hx hb hts i_S hown hK hP 2 rfl rfl 3 (by decide) (hts _ w1_92) (fun _ h9 => h9) rfl d_S_find_113 ?_
                  refine lv_iload hx hb d_S_find_116 (lv_at hl 2 rfl) ?_
                  refine lv_aload_n hx hb d_S_find_118 rfl (lv_at hl 3 rfl) ?_
                  refine lv_aload_n hx hb d_S_find_119 rfl (lv_at hl 4 rfl) ?_
                  refine lv_iload hx hb d_S_find_120 (lv_at hl 2 rfl) ?_
                  refine gp_cR (q0 := 2) (ci := 2) (As := [.ref (E.2.2.2 1), .int (nI t)]) (rest := [.int (nI t), .ref (E.2.2.2 14)]) ⟨hx, hb, hml, hown, hts⟩ (c_S_bitsOfTooNearF l E I F (gp_uF (gp_uF (gp_uF (gp_uF F 10 (fun j => if j < t then gp_ch F ns np fr mb j else F 10 j)) 11 (fun j => if j < t then gp_bn I F j nt else F 11 j)) 10 (upd (fun j => if j < t then gp_ch F ns np fr mb j else F 10 j) (t) (gp_bit (F 14 t)))) 10 (upd (upd (fun j => if j < t then gp_ch F ns np fr mb j else F 10 j) (t) (gp_bit (F 14 t))) (t) (((upd (fun j => if j < t then gp_ch F ns np fr mb j else F 10 j) (t) (gp_bit (F 14 t))) (t)) &&& ((gp_bit (-1)) ^^^ (-1))))) nt t (fun a h => by simp [gp_uF, show a ≠ 10 by omega, show a ≠ 11 by omega]) hT hnt (by omega)) (k_S_65 hts ⟨by dsimp only [gp_rm]; omega, by dsimp only [gp_rm]; omega⟩ rfl rfl) hK hP rfl rfl rfl hl.1 rfl (Nat.le_of_ble_eq_true rfl) d_S_find_122 ⟨Nat.le_of_ble_eq_true rfl, Nat.le_of_ble_eq_true rfl⟩ ?_
                  refine gp_ast (f := (fun j => if j < t then gp_bn I F j nt else F 11 j)) (n := 6) hx hb hK hP hD hS 14 rfl (t) rfl (by omega) (by decide) d_S_find_125 (fun H locs hP hD hS => ?_)
                  have hP : va_P E.1 gp_cl (gp_wG E I (gp_uF (gp_uF (gp_uF (gp_uF (gp_uF F 10 (fun j => if j < t then gp_ch F ns np fr mb j else F 10 j)) 11 (fun j => if j < t then gp_bn I F j nt else F 11 j)) 10 (upd (fun j => if j < t then gp_ch F ns np fr mb j else F 10 j) (t) (gp_bit (F 14 t)))) 10 (upd (upd (fun j => if j < t then gp_ch F ns np fr mb j else F 10 j) (t) (gp_bit (F 14 t))) (t) (((upd (fun j => if j < t then gp_ch F ns np fr mb j else F 10 j) (t) (gp_bit (F 14 t))) (t)) &&& ((gp_bit (-1)) ^^^ (-1))))) 11 (upd (fun j => if j < t then gp_bn I F j nt else F 11 j) (t) (gp_bn I F t nt)))) H := hP
                  have hD : va_D A (gp_wG E I (gp_uF (gp_uF (gp_uF (gp_uF (gp_uF F 10 (fun j => if j < t then gp_ch F ns np fr mb j else F 10 j)) 11 (fun j => if j < t then gp_bn I F j nt else F 11 j)) 10 (upd (fun j => if j < t then gp_ch F ns np fr mb j else F 10 j) (t) (gp_bit (F 14 t)))) 10 (upd (upd (fun j => if j < t then gp_ch F ns np fr mb j else F 10 j) (t) (gp_bit (F 14 t))) (t) (((upd (fun j => if j < t then gp_ch F ns np fr mb j else F 10 j) (t) (gp_bit (F 14 t))) (t)) &&& ((gp_bit (-1)) ^^^ (-1))))) 11 (upd (fun j => if j < t then gp_bn I F j nt else F 11 j) (t) (gp_bn I F t nt)))) := hD
                  refine lv_iinc (v := (nI (t + 1))) (lv' := [(5, .int (nI (t + 1))), (7, .int 1), (6, .int 0), (0, .ref (E.2.2.2 2)), (1, .ref (E.2.2.2 1)), (2, .ref (E.2.2.2 17)), (3, .int fr), (4, .int (nI mb))]) hx hb d_S_find_126 hl (k := 2) rfl (nI_1 _) (by decide) rfl (fun ls hl => ?_)
                  refine lv_goto (tgt := 3) hx hb d_S_find_129 (by decide) ?_
                  have hF : (gp_uF (gp_uF (gp_uF (gp_uF (gp_uF F 10 (fun j => if j < t then gp_ch F ns np fr mb j else F 10 j)) 11 (fun j => if j < t then gp_bn I F j nt else F 11 j)) 10 (upd (fun j => if j < t then gp_ch F ns np fr mb j else F 10 j) (t) (gp_bit (F 14 t)))) 10 (upd (upd (fun j => if j < t then gp_ch F ns np fr mb j else F 10 j) (t) (gp_bit (F 14 t))) (t) (((upd (fun j => if j < t then gp_ch F ns np fr mb j else F 10 j) (t) (gp_bit (F 14 t))) (t)) &&& ((gp_bit (-1)) ^^^ (-1))))) 11 (upd (fun j => if j < t then gp_bn I F j nt else F 11 j) (t) (gp_bn I F t nt))) = (gp_uF (gp_uF F 10 (fun j => if j < (t + 1) then gp_ch F ns np fr mb j else F 10 j)) 11 (fun j => if j < (t + 1) then gp_bn I F j nt else F 11 j)) := gp_F2 (by decide) (by first | exact gp_up1 (h := gp_ch F ns np fr mb) (k := F 10) (by simp [gp_ch, gp_c0, h1, c9, nc9, c19, c26, nc26, c44, mc44, c62, nc62, c92, nc92]) | exact gp_up2 (h := gp_ch F ns np fr mb) (k := F 10) (by simp [gp_ch, gp_c0, upd, h1, c9, nc9, c19, c26, nc26, c44, mc44, c62, nc62, c92, nc92])) (gp_up1 (h := fun j => gp_bn I F j nt) (k := F 11) rfl) (fun c h1 h2 => by simp [gp_uF, h1, h2])
                  rw [hF] at hP
                  exact ih3 (t + 1) (by omega) (by omega) ls _ _ (lv_sub hl [0, 3, 4, 5, 6, 7] rfl) (hP) (gp_dd hD rfl) hS
          · have c26 := c26
            have nc26 : ¬ t < mb := fun h => c26 ((nI_ltI (a := t) (b := mb) (by omega) (by omega)).mpr h)
            refine lv_iconst (v := 1) hx hb d_S_find_29 (by decide) ?_
            refine lv_goto (tgt := 34) hx hb d_S_find_30 (by decide) ?_
            refine lv_istore (lv' := [(6, .int 1), (5, .int (nI t)), (0, .ref (E.2.2.2 2)), (1, .ref (E.2.2.2 1)), (2, .ref (E.2.2.2 17)), (3, .int fr), (4, .int (nI mb))]) hx hb d_S_find_34 hl (by decide) rfl (fun ls hl => ?_)
            refine lv_aload_n hx hb d_S_find_36 rfl (lv_at hl 3 rfl) ?_
            refine va_get (D := E.1) (cl := gp_cl) (ci := 1) (v := .ref (E.2.2.2 8)) (C := R_D) (T := T_D) (N := 13) hx hb hts i_D hown hK hP 1 rfl rfl 5 (by decide) (hts _ w1_33) (fun _ h9 => h9) rfl d_S_find_37 ?_
            refine lv_iload hx hb d_S_find_40 (lv_at hl 1 rfl) ?_
            refine gp_ald (f := (F 5)) (n := 6) hx hb hK hP 8 rfl (t) rfl (by omega) (by decide) d_S_find_42 ?_
            refine lv_iload_n hx hb d_S_find_43 rfl (lv_at hl 5 rfl) ?_
            refine lv_icmp_ge (tgt := 51) hx hb d_S_find_44 (by decide) (fun c44 => ?_) (fun c44 => ?_)
            · have c44 := c44
              have mc44 : ¬ ((F 5) (t)) < fr := Int32.not_lt.mpr c44
              refine lv_iconst (v := 0) hx hb d_S_find_51 (by decide) ?_
              refine lv_istore (lv' := [(7, .int 0), (6, .int 1), (5, .int (nI t)), (0, .ref (E.2.2.2 2)), (1, .ref (E.2.2.2 1)), (2, .ref (E.2.2.2 17)), (3, .int fr), (4, .int (nI mb))]) hx hb d_S_find_52 hl (by decide) rfl (fun ls hl => ?_)
              refine lv_aload_n hx hb d_S_find_54 rfl (lv_at hl 3 rfl) ?_
              refine va_get (D := E.1) (cl := gp_cl) (ci := 2) (v := .ref (E.2.2.2 13)) (C := R_S) (T := T_S) (N := 9) hx hb hts i_S hown hK hP 2 rfl rfl 2 (by decide) (hts _ w1_91) (fun _ h9 => h9) rfl d_S_find_55 ?_
              refine lv_iload hx hb d_S_find_58 (lv_at hl 2 rfl) ?_
              refine lv_iload hx hb d_S_find_60 (lv_at hl 0 rfl) ?_
              refine lv_if_eq (tgt := 76) hx hb d_S_find_62 (by decide) (fun c62 => ?_) (fun c62 => ?_)
              · have c62 := c62
                have nc62 : 0 = 0 := (nI_eq (a := 0) (b := 0) (by omega) (by omega)).mp c62
                refine lv_aload_n hx hb d_S_find_76 rfl (lv_at hl 3 rfl) ?_
                refine lv_aload_n hx hb d_S_find_77 rfl (lv_at hl 4 rfl) ?_
                refine lv_iload hx hb d_S_find_78 (lv_at hl 2 rfl) ?_
                refine gp_cR (q0 := 2) (ci := 2) (As := [.ref (E.2.2.2 1), .int (nI t)]) (rest := [.int (nI t), .ref (E.2.2.2 13)]) ⟨hx, hb, hml, hown, hts⟩ (c_S_bitsOfSuitingF l E I F (gp_uF (gp_uF F 10 (fun j => if j < t then gp_ch F ns np fr mb j else F 10 j)) 11 (fun j => if j < t then gp_bn I F j nt else F 11 j)) np nt ns t (fun a h => by simp [gp_uF, show a ≠ 10 by omega, show a ≠ 11 by omega]) hp4 hT hN hnp hnt hns (by omega)) (k_S_61 hts ⟨by dsimp only [gp_rm]; omega, by dsimp only [gp_rm]; omega⟩ rfl rfl) hK hP rfl rfl rfl hl.1 rfl (Nat.le_of_ble_eq_true rfl) d_S_find_80 ⟨Nat.le_of_ble_eq_true rfl, Nat.le_of_ble_eq_true rfl⟩ ?_
                refine lv_aload_n hx hb d_S_find_83 rfl (lv_at hl 3 rfl) ?_
                refine lv_iconst (v := (-1)) hx hb d_S_find_84 (by decide) ?_
                refine gp_cR (q0 := 2) (ci := 2) (As := [.int (-1)]) (rest := [.int (gp_bs F ns t np), .int (nI t), .ref (E.2.2.2 13)]) ⟨hx, hb, hml, hown, hts⟩ (c_S_bitOf l E I (gp_uF (gp_uF F 10 (fun j => if j < t then gp_ch F ns np fr mb j else F 10 j)) 11 (fun j => if j < t then gp_bn I F j nt else F 11 j)) (-1)) (k_S_57 hts ⟨by dsimp only [gp_rm]; omega, by dsimp only [gp_rm]; omega⟩ rfl rfl) hK hP rfl rfl rfl hl.1 rfl (Nat.le_of_ble_eq_true rfl) d_S_find_85 ⟨Nat.le_of_ble_eq_true rfl, Nat.le_of_ble_eq_true rfl⟩ ?_
                refine lv_ior hx hb d_S_find_88 ?_
                refine gp_ast (f := (fun j => if j < t then gp_ch F ns np fr mb j else F 10 j)) (n := 6) hx hb hK hP hD hS 13 rfl (t) rfl (by omega) (by decide) d_S_find_89 (fun H locs hP hD hS => ?_)
                have hP : va_P E.1 gp_cl (gp_wG E I (gp_uF (gp_uF (gp_uF F 10 (fun j => if j < t then gp_ch F ns np fr mb j else F 10 j)) 11 (fun j => if j < t then gp_bn I F j nt else F 11 j)) 10 (upd (fun j => if j < t then gp_ch F ns np fr mb j else F 10 j) (t) ((gp_bs F ns t np) ||| (gp_bit (-1)))))) H := hP
                have hD : va_D A (gp_wG E I (gp_uF (gp_uF (gp_uF F 10 (fun j => if j < t then gp_ch F ns np fr mb j else F 10 j)) 11 (fun j => if j < t then gp_bn I F j nt else F 11 j)) 10 (upd (fun j => if j < t then gp_ch F ns np fr mb j else F 10 j) (t) ((gp_bs F ns t np) ||| (gp_bit (-1)))))) := hD
                refine lv_iload hx hb d_S_find_90 (lv_at hl 1 rfl) ?_
                refine lv_if_ne (tgt := 112) hx hb d_S_find_92 (by decide) (fun c92 => ?_) (fun c92 => ?_)
                · have c92 := c92
                  have nc92 : ¬ 1 = 0 := fun h => c92 ((nI_eq (a := 1) (b := 0) (by omega) (by omega)).mpr h)
                  refine lv_aload_n hx hb d_S_find_112 rfl (lv_at hl 3 rfl) ?_
                  refine va_get (D := E.1) (cl := gp_cl) (ci := 2) (v := .ref (E.2.2.2 14)) (C := R_S) (T := T_S) (N := 9) hx hb hts i_S hown hK hP 2 rfl rfl 3 (by decide) (hts _ w1_92) (fun _ h9 => h9) rfl d_S_find_113 ?_
                  refine lv_iload hx hb d_S_find_116 (lv_at hl 2 rfl) ?_
                  refine lv_aload_n hx hb d_S_find_118 rfl (lv_at hl 3 rfl) ?_
                  refine lv_aload_n hx hb d_S_find_119 rfl (lv_at hl 4 rfl) ?_
                  refine lv_iload hx hb d_S_find_120 (lv_at hl 2 rfl) ?_
                  refine gp_cR (q0 := 2) (ci := 2) (As := [.ref (E.2.2.2 1), .int (nI t)]) (rest := [.int (nI t), .ref (E.2.2.2 14)]) ⟨hx, hb, hml, hown, hts⟩ (c_S_bitsOfTooNearF l E I F (gp_uF (gp_uF (gp_uF F 10 (fun j => if j < t then gp_ch F ns np fr mb j else F 10 j)) 11 (fun j => if j < t then gp_bn I F j nt else F 11 j)) 10 (upd (fun j => if j < t then gp_ch F ns np fr mb j else F 10 j) (t) ((gp_bs F ns t np) ||| (gp_bit (-1))))) nt t (fun a h => by simp [gp_uF, show a ≠ 10 by omega, show a ≠ 11 by omega]) hT hnt (by omega)) (k_S_65 hts ⟨by dsimp only [gp_rm]; omega, by dsimp only [gp_rm]; omega⟩ rfl rfl) hK hP rfl rfl rfl hl.1 rfl (Nat.le_of_ble_eq_true rfl) d_S_find_122 ⟨Nat.le_of_ble_eq_true rfl, Nat.le_of_ble_eq_true rfl⟩ ?_
                  refine gp_ast (f := (fun j => if j < t then gp_bn I F j nt else F 11 j)) (n := 6) hx hb hK hP hD hS 14 rfl (t) rfl (by omega) (by decide) d_S_find_125 (fun H locs hP hD hS => ?_)
                  have hP : va_P E.1 gp_cl (gp_wG E I (gp_uF (gp_uF (gp_uF (gp_uF F 10 (fun j => if j < t then gp_ch F ns np fr mb j else F 10 j)) 11 (fun j => if j < t then gp_bn I F j nt else F 11 j)) 10 (upd (fun j => if j < t then gp_ch F ns np fr mb j else F 10 j) (t) ((gp_bs F ns t np) ||| (gp_bit (-1))))) 11 (upd (fun j => if j < t then gp_bn I F j nt else F 11 j) (t) (gp_bn I F t nt)))) H := hP
                  have hD : va_D A (gp_wG E I (gp_uF (gp_uF (gp_uF (gp_uF F 10 (fun j => if j < t then gp_ch F ns np fr mb j else F 10 j)) 11 (fun j => if j < t then gp_bn I F j nt else F 11 j)) 10 (upd (fun j => if j < t then gp_ch F ns np fr mb j else F 10 j) (t) ((gp_bs F ns t np) ||| (gp_bit (-1))))) 11 (upd (fun j => if j < t then gp_bn I F j nt else F 11 j) (t) (gp_bn I F t nt)))) := hD
                  refine lv_iinc (v := (nI (t + 1))) (lv' := [(5, .int (nI (t + 1))), (7, .int 0), (6, .int 1), (0, .ref (E.2.2.2 2)), (1, .ref (E.2.2.2 1)), (2, .ref (E.2.2.2 17)), (3, .int fr), (4, .int (nI mb))]) hx hb d_S_find_126 hl (k := 2) rfl (nI_1 _) (by decide) rfl (fun ls hl => ?_)
                  refine lv_goto (tgt := 3) hx hb d_S_find_129 (by decide) ?_
                  have hF : (gp_uF (gp_uF (gp_uF (gp_uF F 10 (fun j => if j < t then gp_ch F ns np fr mb j else F 10 j)) 11 (fun j => if j < t then gp_bn I F j nt else F 11 j)) 10 (upd (fun j => if j < t then gp_ch F ns np fr mb j else F 10 j) (t) ((gp_bs F ns t np) ||| (gp_bit (-1))))) 11 (upd (fun j => if j < t then gp_bn I F j nt else F 11 j) (t) (gp_bn I F t nt))) = (gp_uF (gp_uF F 10 (fun j => if j < (t + 1) then gp_ch F ns np fr mb j else F 10 j)) 11 (fun j => if j < (t + 1) then gp_bn I F j nt else F 11 j)) := gp_F2 (by decide) (by first | exact gp_up1 (h := gp_ch F ns np fr mb) (k := F 10) (by simp [gp_ch, gp_c0, h1, c9, nc9, c19, c26, nc26, c44, mc44, c62, nc62, c92, nc92]) | exact gp_up2 (h := gp_ch F ns np fr mb) (k := F 10) (by simp [gp_ch, gp_c0, upd, h1, c9, nc9, c19, c26, nc26, c44, mc44, c62, nc62, c92, nc92])) (gp_up1 (h := fun j => gp_bn I F j nt) (k := F 11) rfl) (fun c h1 h2 => by simp [gp_uF, h1, h2])
                  rw [hF] at hP
                  exact ih3 (t + 1) (by omega) (by omega) ls _ _ (lv_sub hl [0, 3, 4, 5, 6, 7] rfl) (hP) (gp_dd hD rfl) hS
                · exact absurd c92 (by decide)
              · exact absurd c62 (by decide)
            · have c44 := c44
              have mc44 : ((F 5) (t)) < fr := Int32.not_le.mp c44
              refine lv_iconst (v := 1) hx hb d_S_find_47 (by decide) ?_
              refine lv_goto (tgt := 52) hx hb d_S_find_48 (by decide) ?_
              refine lv_istore (lv' := [(7, .int 1), (6, .int 1), (5, .int (nI t)), (0, .ref (E.2.2.2 2)), (1, .ref (E.2.2.2 1)), (2, .ref (E.2.2.2 17)), (3, .int fr), (4, .int (nI mb))]) hx hb d_S_find_52 hl (by decide) rfl (fun ls hl => ?_)
              refine lv_aload_n hx hb d_S_find_54 rfl (lv_at hl 3 rfl) ?_
              refine va_get (D := E.1) (cl := gp_cl) (ci := 2) (v := .ref (E.2.2.2 13)) (C := R_S) (T := T_S) (N := 9) hx hb hts i_S hown hK hP 2 rfl rfl 2 (by decide) (hts _ w1_91) (fun _ h9 => h9) rfl d_S_find_55 ?_
              refine lv_iload hx hb d_S_find_58 (lv_at hl 2 rfl) ?_
              refine lv_iload hx hb d_S_find_60 (lv_at hl 0 rfl) ?_
              refine lv_if_eq (tgt := 76) hx hb d_S_find_62 (by decide) (fun c62 => ?_) (fun c62 => ?_)
              · exact absurd c62 (by decide)
              · have c62 := c62
                have nc62 : ¬ 1 = 0 := fun h => c62 ((nI_eq (a := 1) (b := 0) (by omega) (by omega)).mpr h)
                refine lv_aload_n hx hb d_S_find_65 rfl (lv_at hl 3 rfl) ?_
                refine lv_aload_n hx hb d_S_find_66 rfl (lv_at hl 5 rfl) ?_
                refine lv_iload hx hb d_S_find_67 (lv_at hl 2 rfl) ?_
                refine gp_ald (f := (F 14)) (n := 6) hx hb hK hP 17 rfl (t) rfl (by omega) (by decide) d_S_find_69 ?_
                refine gp_cR (q0 := 2) (ci := 2) (As := [.int ((F 14) (t))]) (rest := [.int (nI t), .ref (E.2.2.2 13)]) ⟨hx, hb, hml, hown, hts⟩ (c_S_bitOf l E I (gp_uF (gp_uF F 10 (fun j => if j < t then gp_ch F ns np fr mb j else F 10 j)) 11 (fun j => if j < t then gp_bn I F j nt else F 11 j)) (F 14 t)) (k_S_57 hts ⟨by dsimp only [gp_rm]; omega, by dsimp only [gp_rm]; omega⟩ rfl rfl) hK hP rfl rfl rfl hl.1 rfl (Nat.le_of_ble_eq_true rfl) d_S_find_70 ⟨Nat.le_of_ble_eq_true rfl, Nat.le_of_ble_eq_true rfl⟩ ?_
                refine lv_goto (tgt := 89) hx hb d_S_find_73 (by decide) ?_
                refine gp_ast (f := (fun j => if j < t then gp_ch F ns np fr mb j else F 10 j)) (n := 6) hx hb hK hP hD hS 13 rfl (t) rfl (by omega) (by decide) d_S_find_89 (fun H locs hP hD hS => ?_)
                have hP : va_P E.1 gp_cl (gp_wG E I (gp_uF (gp_uF (gp_uF F 10 (fun j => if j < t then gp_ch F ns np fr mb j else F 10 j)) 11 (fun j => if j < t then gp_bn I F j nt else F 11 j)) 10 (upd (fun j => if j < t then gp_ch F ns np fr mb j else F 10 j) (t) (gp_bit (F 14 t))))) H := hP
                have hD : va_D A (gp_wG E I (gp_uF (gp_uF (gp_uF F 10 (fun j => if j < t then gp_ch F ns np fr mb j else F 10 j)) 11 (fun j => if j < t then gp_bn I F j nt else F 11 j)) 10 (upd (fun j => if j < t then gp_ch F ns np fr mb j else F 10 j) (t) (gp_bit (F 14 t))))) := hD
                refine lv_iload hx hb d_S_find_90 (lv_at hl 1 rfl) ?_
                refine lv_if_ne (tgt := 112) hx hb d_S_find_92 (by decide) (fun c92 => ?_) (fun c92 => ?_)
                · have c92 := c92
                  have nc92 : ¬ 1 = 0 := fun h => c92 ((nI_eq (a := 1) (b := 0) (by omega) (by omega)).mpr h)
                  refine lv_aload_n hx hb d_S_find_112 rfl (lv_at hl 3 rfl) ?_
                  refine va_get (D := E.1) (cl := gp_cl) (ci := 2) (v := .ref (E.2.2.2 14)) (C := R_S) (T := T_S) (N := 9) hx hb hts i_S hown hK hP 2 rfl rfl 3 (by decide) (hts _ w1_92) (fun _ h9 => h9) rfl d_S_find_113 ?_
                  refine lv_iload hx hb d_S_find_116 (lv_at hl 2 rfl) ?_
                  refine lv_aload_n hx hb d_S_find_118 rfl (lv_at hl 3 rfl) ?_
                  refine lv_aload_n hx hb d_S_find_119 rfl (lv_at hl 4 rfl) ?_
                  refine lv_iload hx hb d_S_find_120 (lv_at hl 2 rfl) ?_
                  refine gp_cR (q0 := 2) (ci := 2) (As := [.ref (E.2.2.2 1), .int (nI t)]) (rest := [.int (nI t), .ref (E.2.2.2 14)]) ⟨hx, hb, hml, hown, hts⟩ (c_S_bitsOfTooNearF l E I F (gp_uF (gp_uF (gp_uF F 10 (fun j => if j < t then gp_ch F ns np fr mb j else F 10 j)) 11 (fun j => if j < t then gp_bn I F j nt else F 11 j)) 10 (upd (fun j => if j < t then gp_ch F ns np fr mb j else F 10 j) (t) (gp_bit (F 14 t)))) nt t (fun a h => by simp [gp_uF, show a ≠ 10 by omega, show a ≠ 11 by omega]) hT hnt (by omega)) (k_S_65 hts ⟨by dsimp only [gp_rm]; omega, by dsimp only [gp_rm]; omega⟩ rfl rfl) hK hP rfl rfl rfl hl.1 rfl (Nat.le_of_ble_eq_true rfl) d_S_find_122 ⟨Nat.le_of_ble_eq_true rfl, Nat.le_of_ble_eq_true rfl⟩ ?_
                  refine gp_ast (f := (fun j => if j < t then gp_bn I F j nt else F 11 j)) (n := 6) hx hb hK hP hD hS 14 rfl (t) rfl (by omega) (by decide) d_S_find_125 (fun H locs hP hD hS => ?_)
                  have hP : va_P E.1 gp_cl (gp_wG E I (gp_uF (gp_uF (gp_uF (gp_uF F 10 (fun j => if j < t then gp_ch F ns np fr mb j else F 10 j)) 11 (fun j => if j < t then gp_bn I F j nt else F 11 j)) 10 (upd (fun j => if j < t then gp_ch F ns np fr mb j else F 10 j) (t) (gp_bit (F 14 t)))) 11 (upd (fun j => if j < t then gp_bn I F j nt else F 11 j) (t) (gp_bn I F t nt)))) H := hP
                  have hD : va_D A (gp_wG E I (gp_uF (gp_uF (gp_uF (gp_uF F 10 (fun j => if j < t then gp_ch F ns np fr mb j else F 10 j)) 11 (fun j => if j < t then gp_bn I F j nt else F 11 j)) 10 (upd (fun j => if j < t then gp_ch F ns np fr mb j else F 10 j) (t) (gp_bit (F 14 t)))) 11 (upd (fun j => if j < t then gp_bn I F j nt else F 11 j) (t) (gp_bn I F t nt)))) := hD
                  refine lv_iinc (v := (nI (t + 1))) (lv' := [(5, .int (nI (t + 1))), (7, .int 1), (6, .int 1), (0, .ref (E.2.2.2 2)), (1, .ref (E.2.2.2 1)), (2, .ref (E.2.2.2 17)), (3, .int fr), (4, .int (nI mb))]) hx hb d_S_find_126 hl (k := 2) rfl (nI_1 _) (by decide) rfl (fun ls hl => ?_)
                  refine lv_goto (tgt := 3) hx hb d_S_find_129 (by decide) ?_
                  have hF : (gp_uF (gp_uF (gp_uF (gp_uF F 10 (fun j => if j < t then gp_ch F ns np fr mb j else F 10 j)) 11 (fun j => if j < t then gp_bn I F j nt else F 11 j)) 10 (upd (fun j => if j < t then gp_ch F ns np fr mb j else F 10 j) (t) (gp_bit (F 14 t)))) 11 (upd (fun j => if j < t then gp_bn I F j nt else F 11 j) (t) (gp_bn I F t nt))) = (gp_uF (gp_uF F 10 (fun j => if j < (t + 1) then gp_ch F ns np fr mb j else F 10 j)) 11 (fun j => if j < (t + 1) then gp_bn I F j nt else F 11 j)) := gp_F2 (by decide) (by first | exact gp_up1 (h := gp_ch F ns np fr mb) (k := F 10) (by simp [gp_ch, gp_c0, h1, c9, nc9, c19, c26, nc26, c44, mc44, c62, nc62, c92, nc92]) | exact gp_up2 (h := gp_ch F ns np fr mb) (k := F 10) (by simp [gp_ch, gp_c0, upd, h1, c9, nc9, c19, c26, nc26, c44, mc44, c62, nc62, c92, nc92])) (gp_up1 (h := fun j => gp_bn I F j nt) (k := F 11) rfl) (fun c h1 h2 => by simp [gp_uF, h1, h2])
                  rw [hF] at hP
                  exact ih3 (t + 1) (by omega) (by omega) ls _ _ (lv_sub hl [0, 3, 4, 5, 6, 7] rfl) (hP) (gp_dd hD rfl) hS
                · exact absurd c92 (by decide)
  exact L3 (nt + 1) 0 (Nat.zero_le _) (by omega) ls _ _ (lv_sub hl [0, 1, 2, 3, 4, 5] rfl) (by rw [← gp_F2 (F := F) (G := F) (a := 10) (b := 11) (by decide) (f := (fun j => if j < 0 then gp_ch F ns np fr mb j else F 10 j)) (g := (fun j => if j < 0 then gp_bn I F j nt else F 11 j)) (by funext j; simp) (by funext j; simp) (fun _ _ _ => rfl)]; exact hP) (gp_dd hD rfl) hS
set_option maxHeartbeats 4000000 in
set_option maxRecDepth 100000 in
theorem c_S_findAnew (l : Launch) (E : gp_E) (I : Nat → Int32) (F : Nat → Nat → Int32) (np nt ns : Nat) (hp4 : I 4 = nI np) (hT : I 6 = nI nt) (hN : I 5 = nI ns) (hnp : np ≤ 4) (hnt : nt ≤ 6) (hns : ns ≤ 20) : gp_CW l y_S_findAnew b_S_findAnew 3 (some .boolean) 18 E (gp_wG E I F) (gp_wG E (gp_fd np nt ns 0 nt (upd (upd I 9 0) 10 1, F)).1 (gp_fd np nt ns 0 nt (upd (upd I 9 0) 10 1, F)).2) [.ref (E.2.2.2 2), .ref (E.2.2.2 1), .ref (E.2.2.2 17)] (some (.int (if (gp_fd np nt ns 0 nt (upd (upd I 9 0) 10 1, F)).1 11 < 1000000 then 1 else 0))) := by
  refine gp_ofW (by decide) (Nat.le_of_ble_eq_true rfl) ?_
  intro xp xe xs xm below meth xc ls A hx hb hr hts hown hlocks hml hP hK hD hA hAe hl
  have hS : va_S A xs.heap xs.heap [] := va_S.rf
  have hown : xs.vm.findClass "GuidePlans$Search" = some xm.cls := hown
  have hl : lv_has ls 3 [(0, .ref (E.2.2.2 2)), (1, .ref (E.2.2.2 1)), (2, .ref (E.2.2.2 17))] := hl
  refine lv_aload_n hx hb d_S_findAnew_0 rfl (lv_at hl 0 rfl) ?_
  refine lv_iconst (v := 0) hx hb d_S_findAnew_1 (by decide) ?_
  refine va_put (D := E.1) (cl := gp_cl) (ci := 2) (v := .int 0) (ty := .int) (C := R_S) (T := T_S) (N := 9) hx hb hts i_S t_S t_S_ok n_S hown hK hP hD hS 2 rfl rfl 6 (by decide) (hts _ w1_95) (fun _ h9 => h9) rfl (by decide +kernel) rfl rfl (Nat.le_of_ble_eq_true rfl) d_S_findAnew_2 (fun H locs hP hD hS => ?_)
  have hP : va_P E.1 gp_cl (gp_wG E (upd I 9 0) F) H := hP
  have hD : va_D A (gp_wG E (upd I 9 0) F) := hD
  refine lv_aload_n hx hb d_S_findAnew_5 rfl (lv_at hl 0 rfl) ?_
  refine lv_iconst (v := 1) hx hb d_S_findAnew_6 (by decide) ?_
  refine va_put (D := E.1) (cl := gp_cl) (ci := 2) (v := .int 1) (ty := .int) (C := R_S) (T := T_S) (N := 9) hx hb hts i_S t_S t_S_ok n_S hown hK hP hD hS 2 rfl rfl 7 (by decide) (hts _ w1_96) (fun _ h9 => h9) rfl (by decide +kernel) rfl rfl (Nat.le_of_ble_eq_true rfl) d_S_findAnew_7 (fun H locs hP hD hS => ?_)
  have hP : va_P E.1 gp_cl (gp_wG E (upd (upd I 9 0) 10 1) F) H := hP
  have hD : va_D A (gp_wG E (upd (upd I 9 0) 10 1) F) := hD
  refine lv_aload_n hx hb d_S_findAnew_10 rfl (lv_at hl 0 rfl) ?_
  refine lv_aload_n hx hb d_S_findAnew_11 rfl (lv_at hl 1 rfl) ?_
  refine lv_aload_n hx hb d_S_findAnew_12 rfl (lv_at hl 2 rfl) ?_
  refine lv_iconst (v := 0) hx hb d_S_findAnew_13 (by decide) ?_
  refine lv_aload_n hx hb d_S_findAnew_14 rfl (lv_at hl 1 rfl) ?_
  refine va_get (D := E.1) (cl := gp_cl) (ci := 1) (v := .int (nI nt)) (C := R_D) (T := T_D) (N := 13) hx hb hts i_D hown hK hP 1 rfl rfl 10 (by decide) (hts _ w1_45) (fun _ h9 => h9) (congrArg (fun z => some (Value.int z)) hT) d_S_findAnew_15 ?_
  refine gp_cW (q0 := 2) (ci := 2) (As := [.ref (E.2.2.2 1), .ref (E.2.2.2 17), .int 0, .int (nI nt)]) (rest := []) ⟨hx, hb, hml, hown, hts⟩ (c_S_find l E (upd (upd I 9 0) 10 1) F np nt ns nt 0 hp4 hT hN hnp hnt hns hnt) (k_S_46 hts ⟨by decide, by decide⟩ rfl rfl) hK hP hD hS hA rfl rfl rfl rfl hl.1 rfl (Nat.le_of_ble_eq_true rfl) d_S_findAnew_18 ⟨Nat.le_of_ble_eq_true rfl, Nat.le_of_ble_eq_true rfl⟩ (fun H locs hP hD hS => ?_)
  have hP : va_P E.1 gp_cl (gp_wG E (gp_fd np nt ns 0 nt (upd (upd I 9 0) 10 1, F)).1 (gp_fd np nt ns 0 nt (upd (upd I 9 0) 10 1, F)).2) H := hP
  have hD : va_D A (gp_wG E (gp_fd np nt ns 0 nt (upd (upd I 9 0) 10 1, F)).1 (gp_fd np nt ns 0 nt (upd (upd I 9 0) 10 1, F)).2) := hD
  refine W.eq (g2 := F0 xm 21 ls [.int (if (gp_fd np nt ns 0 nt (upd (upd I 9 0) 10 1, F)).1 11 < 1000000 then 1 else 0)]) rfl ?_
  exact gp_wz hx hb hr hlocks hAe (by split <;> rfl) (rfl) (hP) hS d_S_findAnew_21
set_option maxHeartbeats 4000000 in
set_option maxRecDepth 100000 in
theorem c_S_findNearest (l : Launch) (E : gp_E) (I : Nat → Int32) (F : Nat → Nat → Int32) (np nt ns : Nat) (fr : Int32) (hp4 : I 4 = nI np) (hT : I 6 = nI nt) (hN : I 5 = nI ns) (hnp : np ≤ 4) (hnt : nt ≤ 6) (hns : ns ≤ 20) : gp_CW l y_S_findNearest b_S_findNearest 4 (some .boolean) 18 E (gp_wG E I F) (gp_wG E (gp_fd np nt ns fr nt (upd (upd I 9 1000) 10 1, F)).1 (gp_fd np nt ns fr nt (upd (upd I 9 1000) 10 1, F)).2) [.ref (E.2.2.2 2), .ref (E.2.2.2 1), .ref (E.2.2.2 17), .int fr] (some (.int (if (gp_fd np nt ns fr nt (upd (upd I 9 1000) 10 1, F)).1 11 < 1000000 then 1 else 0))) := by
  refine gp_ofW (by decide) (Nat.le_of_ble_eq_true rfl) ?_
  intro xp xe xs xm below meth xc ls A hx hb hr hts hown hlocks hml hP hK hD hA hAe hl
  have hS : va_S A xs.heap xs.heap [] := va_S.rf
  have hown : xs.vm.findClass "GuidePlans$Search" = some xm.cls := hown
  have hl : lv_has ls 4 [(0, .ref (E.2.2.2 2)), (1, .ref (E.2.2.2 1)), (2, .ref (E.2.2.2 17)), (3, .int fr)] := hl
  refine lv_aload_n hx hb d_S_findNearest_0 rfl (lv_at hl 0 rfl) ?_
  refine lv_sipush (v := 1000) hx hb d_S_findNearest_1 (by decide) ?_
  refine va_put (D := E.1) (cl := gp_cl) (ci := 2) (v := .int 1000) (ty := .int) (C := R_S) (T := T_S) (N := 9) hx hb hts i_S t_S t_S_ok n_S hown hK hP hD hS 2 rfl rfl 6 (by decide) (hts _ w1_95) (fun _ h9 => h9) rfl (by decide +kernel) rfl rfl (Nat.le_of_ble_eq_true rfl) d_S_findNearest_4 (fun H locs hP hD hS => ?_)
  have hP : va_P E.1 gp_cl (gp_wG E (upd I 9 1000) F) H := hP
  have hD : va_D A (gp_wG E (upd I 9 1000) F) := hD
  refine lv_aload_n hx hb d_S_findNearest_7 rfl (lv_at hl 0 rfl) ?_
  refine lv_iconst (v := 1) hx hb d_S_findNearest_8 (by decide) ?_
  refine va_put (D := E.1) (cl := gp_cl) (ci := 2) (v := .int 1) (ty := .int) (C := R_S) (T := T_S) (N := 9) hx hb hts i_S t_S t_S_ok n_S hown hK hP hD hS 2 rfl rfl 7 (by decide) (hts _ w1_96) (fun _ h9 => h9) rfl (by decide +kernel) rfl rfl (Nat.le_of_ble_eq_true rfl) d_S_findNearest_9 (fun H locs hP hD hS => ?_)
  have hP : va_P E.1 gp_cl (gp_wG E (upd (upd I 9 1000) 10 1) F) H := hP
  have hD : va_D A (gp_wG E (upd (upd I 9 1000) 10 1) F) := hD
  refine lv_aload_n hx hb d_S_findNearest_12 rfl (lv_at hl 0 rfl) ?_
  refine lv_aload_n hx hb d_S_findNearest_13 rfl (lv_at hl 1 rfl) ?_
  refine lv_aload_n hx hb d_S_findNearest_14 rfl (lv_at hl 2 rfl) ?_
  refine lv_iload_n hx hb d_S_findNearest_15 rfl (lv_at hl 3 rfl) ?_
  refine lv_aload_n hx hb d_S_findNearest_16 rfl (lv_at hl 1 rfl) ?_
  refine va_get (D := E.1) (cl := gp_cl) (ci := 1) (v := .int (nI nt)) (C := R_D) (T := T_D) (N := 13) hx hb hts i_D hown hK hP 1 rfl rfl 10 (by decide) (hts _ w1_45) (fun _ h9 => h9) (congrArg (fun z => some (Value.int z)) hT) d_S_findNearest_17 ?_
  refine gp_cW (q0 := 2) (ci := 2) (As := [.ref (E.2.2.2 1), .ref (E.2.2.2 17), .int fr, .int (nI nt)]) (rest := []) ⟨hx, hb, hml, hown, hts⟩ (c_S_find l E (upd (upd I 9 1000) 10 1) F np nt ns nt fr hp4 hT hN hnp hnt hns hnt) (k_S_46 hts ⟨by decide, by decide⟩ rfl rfl) hK hP hD hS hA rfl rfl rfl rfl hl.1 rfl (Nat.le_of_ble_eq_true rfl) d_S_findNearest_20 ⟨Nat.le_of_ble_eq_true rfl, Nat.le_of_ble_eq_true rfl⟩ (fun H locs hP hD hS => ?_)
  have hP : va_P E.1 gp_cl (gp_wG E (gp_fd np nt ns fr nt (upd (upd I 9 1000) 10 1, F)).1 (gp_fd np nt ns fr nt (upd (upd I 9 1000) 10 1, F)).2) H := hP
  have hD : va_D A (gp_wG E (gp_fd np nt ns fr nt (upd (upd I 9 1000) 10 1, F)).1 (gp_fd np nt ns fr nt (upd (upd I 9 1000) 10 1, F)).2) := hD
  refine W.eq (g2 := F0 xm 23 ls [.int (if (gp_fd np nt ns fr nt (upd (upd I 9 1000) 10 1, F)).1 11 < 1000000 then 1 else 0)]) rfl ?_
  exact gp_wz hx hb hr hlocks hAe (by split <;> rfl) (rfl) (hP) hS d_S_findNearest_23
set_option maxHeartbeats 4000000 in
set_option maxRecDepth 100000 in
theorem c_S_firstLacking (l : Launch) (E : gp_E) (I : Nat → Int32) (F : Nat → Nat → Int32) (np nt ns : Nat) (fr : Int32) (hp4 : I 4 = nI np) (hT : I 6 = nI nt) (hN : I 5 = nI ns) (hnp : np ≤ 4) (hnt : nt ≤ 6) (hns : ns ≤ 20) : gp_CW l y_S_firstLacking b_S_firstLacking 5 (some .int) 18 E (gp_wG E I F) (gp_wG E (gp_fl np nt ns fr nt 0 (upd (upd I 9 0) 10 0, F)).2.1 (gp_fl np nt ns fr nt 0 (upd (upd I 9 0) 10 0, F)).2.2) [.ref (E.2.2.2 2), .ref (E.2.2.2 1), .ref (E.2.2.2 17), .int fr] (some (.int (gp_fl np nt ns fr nt 0 (upd (upd I 9 0) 10 0, F)).1)) := by
  refine gp_ofW (by decide) (Nat.le_of_ble_eq_true rfl) ?_
  intro xp xe xs xm below meth xc ls A hx hb hr hts hown hlocks hml hP hK hD hA hAe hl
  have hS : va_S A xs.heap xs.heap [] := va_S.rf
  have hown : xs.vm.findClass "GuidePlans$Search" = some xm.cls := hown
  have hl : lv_has ls 5 [(0, .ref (E.2.2.2 2)), (1, .ref (E.2.2.2 1)), (2, .ref (E.2.2.2 17)), (3, .int fr)] := hl
  refine lv_aload_n hx hb d_S_firstLacking_0 rfl (lv_at hl 0 rfl) ?_
  refine lv_iconst (v := 0) hx hb d_S_firstLacking_1 (by decide) ?_
  refine va_put (D := E.1) (cl := gp_cl) (ci := 2) (v := .int 0) (ty := .int) (C := R_S) (T := T_S) (N := 9) hx hb hts i_S t_S t_S_ok n_S hown hK hP hD hS 2 rfl rfl 6 (by decide) (hts _ w1_95) (fun _ h9 => h9) rfl (by decide +kernel) rfl rfl (Nat.le_of_ble_eq_true rfl) d_S_firstLacking_2 (fun H locs hP hD hS => ?_)
  have hP : va_P E.1 gp_cl (gp_wG E (upd I 9 0) F) H := hP
  have hD : va_D A (gp_wG E (upd I 9 0) F) := hD
  refine lv_aload_n hx hb d_S_firstLacking_5 rfl (lv_at hl 0 rfl) ?_
  refine lv_iconst (v := 0) hx hb d_S_firstLacking_6 (by decide) ?_
  refine va_put (D := E.1) (cl := gp_cl) (ci := 2) (v := .int 0) (ty := .int) (C := R_S) (T := T_S) (N := 9) hx hb hts i_S t_S t_S_ok n_S hown hK hP hD hS 2 rfl rfl 7 (by decide) (hts _ w1_96) (fun _ h9 => h9) rfl (by decide +kernel) rfl rfl (Nat.le_of_ble_eq_true rfl) d_S_firstLacking_7 (fun H locs hP hD hS => ?_)
  have hP : va_P E.1 gp_cl (gp_wG E (upd (upd I 9 0) 10 0) F) H := hP
  have hD : va_D A (gp_wG E (upd (upd I 9 0) 10 0) F) := hD
  refine lv_iconst (v := 0) hx hb d_S_firstLacking_10 (by decide) ?_
  refine lv_istore (lv' := [(4, .int 0), (0, .ref (E.2.2.2 2)), (1, .ref (E.2.2.2 1)), (2, .ref (E.2.2.2 17)), (3, .int fr)]) hx hb d_S_firstLacking_11 hl (by decide) rfl (fun ls hl => ?_)
  have L13 : ∀ (n : Nat) (t : Nat) (I1 : Nat → Int32) (F1 : Nat → Nat → Int32), t ≤ nt → (I1 4 = nI np ∧ I1 5 = nI ns ∧ I1 6 = nI nt) → gp_fl np nt ns fr (nt - t) t (I1, F1) = (gp_fl np nt ns fr nt 0 (upd (upd I 9 0) 10 0, F)) → nt + 1 ≤ t + n → ∀ (ls : Array Slot) (H : Heap) (locs : List Loc), lv_has ls 5 [(4, .int (nI t)), (0, .ref (E.2.2.2 2)), (1, .ref (E.2.2.2 1)), (2, .ref (E.2.2.2 17)), (3, .int fr)] → va_P E.1 gp_cl (gp_wG E I1 F1) H → va_D A (gp_wG E I1 F1) → va_S A xs.heap H locs → W xp l xe (gp_rm 18 0 0) xs xm ([.ref (E.2.2.2 2), .ref (E.2.2.2 1), .ref (E.2.2.2 17), .int fr] : List Value).toArray below meth xc H locs 0 0 (MQ below (gp_QW E (some (.int (gp_fl np nt ns fr nt 0 (upd (upd I 9 0) 10 0, F)).1)) (gp_wG E I F) (gp_wG E (gp_fl np nt ns fr nt 0 (upd (upd I 9 0) 10 0, F)).2.1 (gp_fl np nt ns fr nt 0 (upd (upd I 9 0) 10 0, F)).2.2) xs.heap.size) ([.ref (E.2.2.2 2), .ref (E.2.2.2 1), .ref (E.2.2.2 17), .int fr] : List Value).toArray xs 0 0 A) (F0 xm 13 ls []) := by
    intro n
    induction n with
    | zero =>
      intro t I1 F1 h1 hI h2 hm
      exact absurd hm (by omega)
    | succ n ih13 =>
      intro t I1 F1 h1 hI h2 hm ls H locs hl hP hD hS
      refine lv_iload hx hb d_S_firstLacking_13 (lv_at hl 0 rfl) ?_
      refine lv_aload_n hx hb d_S_firstLacking_15 rfl (lv_at hl 2 rfl) ?_
      refine va_get (D := E.1) (cl := gp_cl) (ci := 1) (v := .int (nI nt)) (C := R_D) (T := T_D) (N := 13) hx hb hts i_D hown hK hP 1 rfl rfl 10 (by decide) (hts _ w1_45) (fun _ h9 => h9) (congrArg (fun z => some (Value.int z)) hI.2.2) d_S_firstLacking_16 ?_
      refine lv_icmp_ge (tgt := 60) hx hb d_S_firstLacking_19 (by decide) (fun c19 => ?_) (fun c19 => ?_)
      · have c19 := c19
        have nc19 : nt ≤ t := (nI_leI (a := nt) (b := t) (by omega) (by omega)).mp c19
        have e2 : (gp_fl np nt ns fr nt 0 (upd (upd I 9 0) 10 0, F)) = (-1, (I1, F1)) := by rw [← h2, show nt - t = 0 by omega, gp_fl]
        refine lv_iconst (v := (-1)) hx hb d_S_firstLacking_60 (by decide) ?_
        exact gp_wi hx hb hr hlocks hAe (by rw [e2]) (by rw [e2]; exact hP) hS d_S_firstLacking_61
      · have c19 := c19
        have nc19 : ¬ nt ≤ t := fun h => c19 ((nI_leI (a := nt) (b := t) (by omega) (by omega)).mpr h)
        refine lv_aload_n hx hb d_S_firstLacking_22 rfl (lv_at hl 2 rfl) ?_
        refine va_get (D := E.1) (cl := gp_cl) (ci := 1) (v := .ref (E.2.2.2 10)) (C := R_D) (T := T_D) (N := 13) hx hb hts i_D hown hK hP 1 rfl rfl 7 (by decide) (hts _ w1_37) (fun _ h9 => h9) rfl d_S_firstLacking_23 ?_
        refine lv_iload hx hb d_S_firstLacking_26 (lv_at hl 0 rfl) ?_
        refine gp_zld (f := (F1 7)) (n := 6) hx hb hK hP 10 rfl (t) rfl (by omega) (by decide) d_S_firstLacking_28 ?_
        refine lv_if_eq (tgt := 54) hx hb d_S_firstLacking_29 (by decide) (fun c29 => ?_) (fun c29 => ?_)
        · have c29 := c29
          refine lv_iinc (v := (nI (t + 1))) (lv' := [(4, .int (nI (t + 1))), (0, .ref (E.2.2.2 2)), (1, .ref (E.2.2.2 1)), (2, .ref (E.2.2.2 17)), (3, .int fr)]) hx hb d_S_firstLacking_54 hl (k := 0) rfl (nI_1 _) (by decide) rfl (fun ls hl => ?_)
          refine lv_goto (tgt := 13) hx hb d_S_firstLacking_57 (by decide) ?_
          exact ih13 (t + 1) _ _ (by omega) (by first | exact hI | exact ⟨((gp_fd_kq (σ := (I1, F1))).1 4 (by decide)).trans hI.1, ((gp_fd_kq (σ := (I1, F1))).1 5 (by decide)).trans hI.2.1, ((gp_fd_kq (σ := (I1, F1))).1 6 (by decide)).trans hI.2.2⟩) (by rw [← h2, show nt - t = (nt - (t + 1)) + 1 by omega, gp_fl]; first | rw [if_pos c29] | (rw [if_neg c29, if_pos hs40])) (by omega) ls _ _ (lv_sub hl [0, 1, 2, 3, 4] rfl) (hP) (gp_dd hD rfl) hS
        · have c29 := c29
          refine lv_aload_n hx hb d_S_firstLacking_32 rfl (lv_at hl 1 rfl) ?_
          refine lv_aload_n hx hb d_S_firstLacking_33 rfl (lv_at hl 2 rfl) ?_
          refine lv_aload_n hx hb d_S_firstLacking_34 rfl (lv_at hl 3 rfl) ?_
          refine lv_iload_n hx hb d_S_firstLacking_35 rfl (lv_at hl 4 rfl) ?_
          refine lv_iload hx hb d_S_firstLacking_36 (lv_at hl 0 rfl) ?_
          refine lv_iconst (v := 1) hx hb d_S_firstLacking_38 (by decide) ?_
          refine lv_iadd hx hb d_S_firstLacking_39 ?_
          rw [show ((nI t) + 1) = (nI (t + 1)) from nI_1 _]
          refine gp_cW (q0 := 2) (ci := 2) (As := [.ref (E.2.2.2 1), .ref (E.2.2.2 17), .int fr, .int (nI (t + 1))]) (rest := []) ⟨hx, hb, hml, hown, hts⟩ (c_S_find l E I1 F1 np nt ns (t + 1) fr hI.1 hI.2.2 hI.2.1 hnp hnt hns (by omega)) (k_S_46 hts ⟨by decide, by decide⟩ rfl rfl) hK hP hD hS hA rfl rfl rfl rfl hl.1 rfl (Nat.le_of_ble_eq_true rfl) d_S_firstLacking_40 ⟨Nat.le_of_ble_eq_true rfl, Nat.le_of_ble_eq_true rfl⟩ (fun H locs hP hD hS => ?_)
          have hP : va_P E.1 gp_cl (gp_wG E (gp_fd np nt ns fr (t + 1) (I1, F1)).1 (gp_fd np nt ns fr (t + 1) (I1, F1)).2) H := hP
          have hD : va_D A (gp_wG E (gp_fd np nt ns fr (t + 1) (I1, F1)).1 (gp_fd np nt ns fr (t + 1) (I1, F1)).2) := hD
          refine W.eq (g2 := F0 xm 43 ls [.int (if (gp_fd np nt ns fr (t + 1) (I1, F1)).1 11 < 1000000 then 1 else 0)]) rfl ?_
          by_cases hs40 : (gp_fd np nt ns fr (t + 1) (I1, F1)).1 11 < 1000000
          · rw [if_pos hs40]
            refine lv_if_ne (tgt := 54) hx hb d_S_firstLacking_43 (by decide) (fun c43 => ?_) (fun c43 => ?_)
            · have c43 := c43
              have nc43 : ¬ 1 = 0 := fun h => c43 ((nI_eq (a := 1) (b := 0) (by omega) (by omega)).mpr h)
              refine lv_iinc (v := (nI (t + 1))) (lv' := [(4, .int (nI (t + 1))), (0, .ref (E.2.2.2 2)), (1, .ref (E.2.2.2 1)), (2, .ref (E.2.2.2 17)), (3, .int fr)]) hx hb d_S_firstLacking_54 hl (k := 0) rfl (nI_1 _) (by decide) rfl (fun ls hl => ?_)
              refine lv_goto (tgt := 13) hx hb d_S_firstLacking_57 (by decide) ?_
              exact ih13 (t + 1) _ _ (by omega) (by first | exact hI | exact ⟨((gp_fd_kq (σ := (I1, F1))).1 4 (by decide)).trans hI.1, ((gp_fd_kq (σ := (I1, F1))).1 5 (by decide)).trans hI.2.1, ((gp_fd_kq (σ := (I1, F1))).1 6 (by decide)).trans hI.2.2⟩) (by rw [← h2, show nt - t = (nt - (t + 1)) + 1 by omega, gp_fl]; first | rw [if_pos c29] | (rw [if_neg c29, if_pos hs40])) (by omega) ls _ _ (lv_sub hl [0, 1, 2, 3, 4] rfl) (hP) (gp_dd hD rfl) hS
            · exact absurd c43 (by decide)
          · rw [if_neg hs40]
            refine lv_if_ne (tgt := 54) hx hb d_S_firstLacking_43 (by decide) (fun c43 => ?_) (fun c43 => ?_)
            · exact absurd c43 (by decide)
            · have c43 := c43
              have nc43 : 0 = 0 := (nI_eq (a := 0) (b := 0) (by omega) (by omega)).mp c43
              have e2 : (gp_fl np nt ns fr nt 0 (upd (upd I 9 0) 10 0, F)) = (F1 5 t, gp_fd np nt ns fr (t + 1) (I1, F1)) := by rw [← h2, show nt - t = (nt - (t + 1)) + 1 by omega, gp_fl, if_neg c29, if_neg hs40]
              refine lv_aload_n hx hb d_S_firstLacking_46 rfl (lv_at hl 2 rfl) ?_
              refine va_get (D := E.1) (cl := gp_cl) (ci := 1) (v := .ref (E.2.2.2 8)) (C := R_D) (T := T_D) (N := 13) hx hb hts i_D hown hK hP 1 rfl rfl 5 (by decide) (hts _ w1_33) (fun _ h9 => h9) rfl d_S_firstLacking_47 ?_
              refine lv_iload hx hb d_S_firstLacking_50 (lv_at hl 0 rfl) ?_
              refine gp_ald (f := ((gp_fd np nt ns fr (t + 1) (I1, F1)).2 5)) (n := 6) hx hb hK hP 8 rfl (t) rfl (by omega) (by decide) d_S_firstLacking_52 ?_
              exact gp_wi hx hb hr hlocks hAe (by rw [e2]; exact congrArg (fun z => some (Value.int z)) (congrFun ((gp_fd_kq (σ := (I1, F1))).2.1 5 (by decide)) t).symm) (by rw [e2]; exact hP) hS d_S_firstLacking_53
  exact L13 (nt + 1) 0 (upd (upd I 9 0) 10 0) F (Nat.zero_le _) ⟨hp4, hN, hT⟩ rfl (by omega) ls _ _ (lv_sub hl [0, 1, 2, 3, 4] rfl) (hP) (hD) hS
end
section
/-! ===== GuidePlans: the methods that read ===== -/
theorem gp_nn {p : Nat} (h : p < 2 ^ 31) (e : nI p = -1) : False := by
  have h1 := nI_toInt h
  rw [e] at h1
  have h2 : (-1 : Int32).toInt = -1 := by decide
  omega
def gp_nu (f : Nat → Int32) (x : Int32) : Nat → Int32
  | 0 => 0
  | k + 1 => if f k = x then gp_nu f x k + 1 else gp_nu f x k
def gp_qo (F : Nat → Nat → Int32) (f : Nat → Int32) (x : Int32) : Nat → Int32
  | 0 => 0
  | k + 1 => if f k = x then gp_qo F f x k + (F 6 k - F 5 k) else gp_qo F f x k
def gp_e1 (f : Nat → Int32) : Nat → Int32
  | 0 => 0
  | k + 1 => if f k = -1 then gp_e1 f k + 100 else gp_e1 f k
def gp_e2 (f : Nat → Int32) (nt : Nat) : Nat → Int32
  | 0 => gp_e1 f nt
  | k + 1 => gp_e2 f nt k + gp_nu f (nI k) nt * gp_nu f (nI k) nt
def gp_pr (I : Nat → Int32) (F : Nat → Nat → Int32) (x : Int32) (t u : Nat) : Bool := decide (F 14 t = x) && decide (F 14 u = x) && gp_near I F t u
def gp_hi (I : Nat → Int32) (F : Nat → Nat → Int32) (x : Int32) (t : Nat) : Nat → Bool
  | 0 => false
  | k + 1 => gp_hi I F x t k || (decide (t < k) && gp_pr I F x t k)
def gp_ho (I : Nat → Int32) (F : Nat → Nat → Int32) (x : Int32) (nt : Nat) : Nat → Bool
  | 0 => false
  | k + 1 => gp_ho I F x nt k || gp_hi I F x k nt
theorem gp_hi_0 {I : Nat → Int32} {F : Nat → Nat → Int32} {x : Int32} {t : Nat} : ∀ k, k ≤ t + 1 → gp_hi I F x t k = false := by
  intro k
  induction k with
  | zero => intro _; rfl
  | succ k ih => intro h; simp [gp_hi, ih (by omega), show ¬ t < k by omega]
theorem gp_hi_up {I : Nat → Int32} {F : Nat → Nat → Int32} {x : Int32} {t u : Nat} (h : gp_pr I F x t u = true) (htu : t < u) : ∀ k, u < k → gp_hi I F x t k = true := by
  intro k
  induction k with
  | zero => intro h; omega
  | succ k ih =>
    intro hs
    by_cases e : u = k
    · subst e; simp [gp_hi, h, htu]
    · simp [gp_hi, ih (by omega)]
theorem gp_ho_up {I : Nat → Int32} {F : Nat → Nat → Int32} {x : Int32} {nt t : Nat} (h : gp_hi I F x t nt = true) : ∀ k, t < k → gp_ho I F x nt k = true := by
  intro k
  induction k with
  | zero => intro h; omega
  | succ k ih =>
    intro hs
    by_cases e : t = k
    · subst e; simp [gp_ho, h]
    · simp [gp_ho, ih (by omega)]
def gp_htn (I : Nat → Int32) (F : Nat → Nat → Int32) (x : Int32) (nt : Nat) : Bool := !decide (x = -1) && gp_ho I F x nt nt
def gp_wtl (I : Nat → Int32) (F : Nat → Nat → Int32) (x : Int32) (nt : Nat) : Bool := !decide (x = -1) && decide (I 8 < gp_qo F (F 14) x nt)
def gp_uns (F : Nat → Nat → Int32) (ns : Nat) (x : Int32) (t : Nat) : Bool := !decide (x = -1) && !gp_suit F ns x.toNatClampNeg t
def gp_fs (I : Nat → Int32) (F : Nat → Nat → Int32) (x y : Int32) (nt : Nat) : Int32 := if gp_htn I F x nt || gp_htn I F y nt then 4 else if gp_wtl I F x nt || gp_wtl I F y nt then 5 else 0
/-- the tasks that a new plan changes: how many, which -/
def gp_nc (F : Nat → Nat → Int32) : Nat → Nat × (Nat → Int32)
  | 0 => (0, F 15)
  | k + 1 => if F 14 k = F 8 k then gp_nc F k else ((gp_nc F k).1 + 1, upd (gp_nc F k).2 (gp_nc F k).1 (nI k))
theorem gp_nc_le {F : Nat → Nat → Int32} : ∀ k, (gp_nc F k).1 ≤ k := by
  intro k
  induction k with
  | zero => exact Nat.le_refl _
  | succ k ih =>
    rw [gp_nc]
    split
    · omega
    · show (gp_nc F k).1 + 1 ≤ k + 1
      omega
theorem gp_uF_self {F : Nat → Nat → Int32} {a : Nat} : gp_uF F a (F a) = F := by
  funext c j
  by_cases e : c = a
  · subst e; simp [gp_uF]
  · simp [gp_uF, e]
set_option maxHeartbeats 4000000 in
set_option maxRecDepth 100000 in
theorem c_G_told (l : Launch) (E : gp_E) (I : Nat → Int32) (F : Nat → Nat → Int32)   : gp_CR l y_G_told b_G_told 1 (some .int) 1 E (gp_wG E I F) [.ref (E.2.2.2 0)] (I 2) := by
  refine gp_ofR (by decide) (Nat.le_of_ble_eq_true rfl) ?_
  intro xp xe xs xm below meth xc ls hx hb hr hts hown hlocks hml hP hK hl
  have hown : xs.vm.findClass "GuidePlans" = some xm.cls := hown
  have hl : lv_has ls 1 [(0, .ref (E.2.2.2 0))] := hl
  refine lv_aload_n hx hb d_G_told_0 rfl (lv_at hl 0 rfl) ?_
  refine va_get (D := E.1) (cl := gp_cl) (ci := 0) (v := .int (I 2)) (C := R_G) (T := T_G) (N := 8) hx hb hts i_G hown hK hP 0 rfl rfl 6 (by decide) (hts _ w1_123) (fun _ h9 => h9) rfl d_G_told_1 ?_
  exact gp_ri hx hb hr hlocks (rfl) d_G_told_4
set_option maxHeartbeats 4000000 in
set_option maxRecDepth 100000 in
theorem c_G_numberOfTasks (l : Launch) (E : gp_E) (I : Nat → Int32) (F : Nat → Nat → Int32) (nt : Nat) (x : Int32) (hT : I 6 = nI nt) (hnt : nt ≤ 6) : gp_CR l y_G_numberOfTasks b_G_numberOfTasks 4 (some .int) 1 E (gp_wG E I F) [.ref (E.2.2.2 0), .int x] (gp_nu (F 14) x nt) := by
  refine gp_ofR (by decide) (Nat.le_of_ble_eq_true rfl) ?_
  intro xp xe xs xm below meth xc ls hx hb hr hts hown hlocks hml hP hK hl
  have hown : xs.vm.findClass "GuidePlans" = some xm.cls := hown
  have hl : lv_has ls 4 [(0, .ref (E.2.2.2 0)), (1, .int x)] := hl
  refine lv_iconst (v := 0) hx hb d_G_numberOfTasks_0 (by decide) ?_
  refine lv_istore_n (lv' := [(2, .int 0), (0, .ref (E.2.2.2 0)), (1, .int x)]) hx hb d_G_numberOfTasks_1 rfl hl (by decide) rfl (fun ls hl => ?_)
  refine lv_iconst (v := 0) hx hb d_G_numberOfTasks_2 (by decide) ?_
  refine lv_istore_n (lv' := [(3, .int 0), (2, .int 0), (0, .ref (E.2.2.2 0)), (1, .int x)]) hx hb d_G_numberOfTasks_3 rfl hl (by decide) rfl (fun ls hl => ?_)
  have L4 : ∀ (n : Nat) (t : Nat), t ≤ nt → nt + 1 ≤ t + n → ∀ (ls : Array Slot), lv_has ls 4 [(3, .int (nI t)), (2, .int (gp_nu (F 14) x t)), (0, .ref (E.2.2.2 0)), (1, .int x)] → W xp l xe (gp_rm 1 0 0) xs xm ([.ref (E.2.2.2 0), .int x] : List Value).toArray below meth xc xs.heap [] 0 0 (MQ below (QcRead (gp_nu (F 14) x nt)) ([.ref (E.2.2.2 0), .int x] : List Value).toArray xs 0 0 (fun _ => False)) (F0 xm 4 ls []) := by
    intro n
    induction n with
    | zero =>
      intro t h1 hm
      exact absurd hm (by omega)
    | succ n ih4 =>
      intro t h1 hm ls hl
      refine lv_iload_n hx hb d_G_numberOfTasks_4 rfl (lv_at hl 0 rfl) ?_
      refine lv_aload_n hx hb d_G_numberOfTasks_5 rfl (lv_at hl 2 rfl) ?_
      refine va_get (D := E.1) (cl := gp_cl) (ci := 0) (v := .ref (E.2.2.2 1)) (C := R_G) (T := T_G) (N := 8) hx hb hts i_G hown hK hP 0 rfl rfl 0 (by decide) (hts _ w1_117) (fun _ h9 => h9) rfl d_G_numberOfTasks_6 ?_
      refine va_get (D := E.1) (cl := gp_cl) (ci := 1) (v := .int (nI nt)) (C := R_D) (T := T_D) (N := 13) hx hb hts i_D hown hK hP 1 rfl rfl 10 (by decide) (hts _ w1_46) (fun _ h9 => h9) (congrArg (fun z => some (Value.int z)) hT) d_G_numberOfTasks_9 ?_
      refine lv_icmp_ge (tgt := 34) hx hb d_G_numberOfTasks_12 (by decide) (fun c12 => ?_) (fun c12 => ?_)
      · have c12 := c12
        have nc12 : nt ≤ t := (nI_leI (a := nt) (b := t) (by omega) (by omega)).mp c12
        refine lv_iload_n hx hb d_G_numberOfTasks_34 rfl (lv_at hl 1 rfl) ?_
        exact gp_ri hx hb hr hlocks (by rw [show t = nt by omega]) d_G_numberOfTasks_35
      · have c12 := c12
        have nc12 : ¬ nt ≤ t := fun h => c12 ((nI_leI (a := nt) (b := t) (by omega) (by omega)).mpr h)
        refine lv_aload_n hx hb d_G_numberOfTasks_15 rfl (lv_at hl 2 rfl) ?_
        refine va_get (D := E.1) (cl := gp_cl) (ci := 0) (v := .ref (E.2.2.2 17)) (C := R_G) (T := T_G) (N := 8) hx hb hts i_G hown hK hP 0 rfl rfl 2 (by decide) (hts _ w1_119) (fun _ h9 => h9) rfl d_G_numberOfTasks_16 ?_
        refine lv_iload_n hx hb d_G_numberOfTasks_19 rfl (lv_at hl 0 rfl) ?_
        refine gp_ald (f := (F 14)) (n := 6) hx hb hK hP 17 rfl (t) rfl (by omega) (by decide) d_G_numberOfTasks_20 ?_
        refine lv_iload_n hx hb d_G_numberOfTasks_21 rfl (lv_at hl 3 rfl) ?_
        refine lv_icmp_ne (tgt := 28) hx hb d_G_numberOfTasks_22 (by decide) (fun c22 => ?_) (fun c22 => ?_)
        · have c22 := c22
          refine lv_iinc (v := (nI (t + 1))) (lv' := [(3, .int (nI (t + 1))), (2, .int (gp_nu (F 14) x t)), (0, .ref (E.2.2.2 0)), (1, .int x)]) hx hb d_G_numberOfTasks_28 hl (k := 0) rfl (nI_1 _) (by decide) rfl (fun ls hl => ?_)
          refine lv_goto (tgt := 4) hx hb d_G_numberOfTasks_31 (by decide) ?_
          rw [show (gp_nu (F 14) x t) = (gp_nu (F 14) x (t + 1)) from by simp [gp_nu, h1, c12, nc12, c22]] at hl
          exact ih4 (t + 1) (by omega) (by omega) ls (lv_sub hl [0, 1, 2, 3] rfl)
        · have c22 := c22
          refine lv_iinc (v := ((gp_nu (F 14) x t) + 1)) (lv' := [(2, .int ((gp_nu (F 14) x t) + 1)), (3, .int (nI t)), (0, .ref (E.2.2.2 0)), (1, .int x)]) hx hb d_G_numberOfTasks_25 hl (k := 1) rfl rfl (by decide) rfl (fun ls hl => ?_)
          refine lv_iinc (v := (nI (t + 1))) (lv' := [(3, .int (nI (t + 1))), (2, .int ((gp_nu (F 14) x t) + 1)), (0, .ref (E.2.2.2 0)), (1, .int x)]) hx hb d_G_numberOfTasks_28 hl (k := 1) rfl (nI_1 _) (by decide) rfl (fun ls hl => ?_)
          refine lv_goto (tgt := 4) hx hb d_G_numberOfTasks_31 (by decide) ?_
          rw [show ((gp_nu (F 14) x t) + 1) = (gp_nu (F 14) x (t + 1)) from by simp [gp_nu, h1, c12, nc12, c22]] at hl
          exact ih4 (t + 1) (by omega) (by omega) ls (lv_sub hl [0, 1, 2, 3] rfl)
  exact L4 (nt + 1) 0 (Nat.zero_le _) (by omega) ls (lv_sub hl [0, 1, 2, 3] rfl)
set_option maxHeartbeats 4000000 in
set_option maxRecDepth 100000 in
theorem c_G_quartersOf (l : Launch) (E : gp_E) (I : Nat → Int32) (F : Nat → Nat → Int32) (nt : Nat) (x : Int32) (hT : I 6 = nI nt) (hnt : nt ≤ 6) : gp_CR l y_G_quartersOf b_G_quartersOf 4 (some .int) 3 E (gp_wG E I F) [.ref (E.2.2.2 0), .int x] (gp_qo F (F 14) x nt) := by
  refine gp_ofR (by decide) (Nat.le_of_ble_eq_true rfl) ?_
  intro xp xe xs xm below meth xc ls hx hb hr hts hown hlocks hml hP hK hl
  have hown : xs.vm.findClass "GuidePlans" = some xm.cls := hown
  have hl : lv_has ls 4 [(0, .ref (E.2.2.2 0)), (1, .int x)] := hl
  refine lv_iconst (v := 0) hx hb d_G_quartersOf_0 (by decide) ?_
  refine lv_istore_n (lv' := [(2, .int 0), (0, .ref (E.2.2.2 0)), (1, .int x)]) hx hb d_G_quartersOf_1 rfl hl (by decide) rfl (fun ls hl => ?_)
  refine lv_iconst (v := 0) hx hb d_G_quartersOf_2 (by decide) ?_
  refine lv_istore_n (lv' := [(3, .int 0), (2, .int 0), (0, .ref (E.2.2.2 0)), (1, .int x)]) hx hb d_G_quartersOf_3 rfl hl (by decide) rfl (fun ls hl => ?_)
  have L4 : ∀ (n : Nat) (t : Nat), t ≤ nt → nt + 1 ≤ t + n → ∀ (ls : Array Slot), lv_has ls 4 [(3, .int (nI t)), (2, .int (gp_qo F (F 14) x t)), (0, .ref (E.2.2.2 0)), (1, .int x)] → W xp l xe (gp_rm 3 0 0) xs xm ([.ref (E.2.2.2 0), .int x] : List Value).toArray below meth xc xs.heap [] 0 0 (MQ below (QcRead (gp_qo F (F 14) x nt)) ([.ref (E.2.2.2 0), .int x] : List Value).toArray xs 0 0 (fun _ => False)) (F0 xm 4 ls []) := by
    intro n
    induction n with
    | zero =>
      intro t h1 hm
      exact absurd hm (by omega)
    | succ n ih4 =>
      intro t h1 hm ls hl
      refine lv_iload_n hx hb d_G_quartersOf_4 rfl (lv_at hl 0 rfl) ?_
      refine lv_aload_n hx hb d_G_quartersOf_5 rfl (lv_at hl 2 rfl) ?_
      refine va_get (D := E.1) (cl := gp_cl) (ci := 0) (v := .ref (E.2.2.2 1)) (C := R_G) (T := T_G) (N := 8) hx hb hts i_G hown hK hP 0 rfl rfl 0 (by decide) (hts _ w1_117) (fun _ h9 => h9) rfl d_G_quartersOf_6 ?_
      refine va_get (D := E.1) (cl := gp_cl) (ci := 1) (v := .int (nI nt)) (C := R_D) (T := T_D) (N := 13) hx hb hts i_D hown hK hP 1 rfl rfl 10 (by decide) (hts _ w1_46) (fun _ h9 => h9) (congrArg (fun z => some (Value.int z)) hT) d_G_quartersOf_9 ?_
      refine lv_icmp_ge (tgt := 42) hx hb d_G_quartersOf_12 (by decide) (fun c12 => ?_) (fun c12 => ?_)
      · have c12 := c12
        have nc12 : nt ≤ t := (nI_leI (a := nt) (b := t) (by omega) (by omega)).mp c12
        refine lv_iload_n hx hb d_G_quartersOf_42 rfl (lv_at hl 1 rfl) ?_
        exact gp_ri hx hb hr hlocks (by rw [show t = nt by omega]) d_G_quartersOf_43
      · have c12 := c12
        have nc12 : ¬ nt ≤ t := fun h => c12 ((nI_leI (a := nt) (b := t) (by omega) (by omega)).mpr h)
        refine lv_aload_n hx hb d_G_quartersOf_15 rfl (lv_at hl 2 rfl) ?_
        refine va_get (D := E.1) (cl := gp_cl) (ci := 0) (v := .ref (E.2.2.2 17)) (C := R_G) (T := T_G) (N := 8) hx hb hts i_G hown hK hP 0 rfl rfl 2 (by decide) (hts _ w1_119) (fun _ h9 => h9) rfl d_G_quartersOf_16 ?_
        refine lv_iload_n hx hb d_G_quartersOf_19 rfl (lv_at hl 0 rfl) ?_
        refine gp_ald (f := (F 14)) (n := 6) hx hb hK hP 17 rfl (t) rfl (by omega) (by decide) d_G_quartersOf_20 ?_
        refine lv_iload_n hx hb d_G_quartersOf_21 rfl (lv_at hl 3 rfl) ?_
        refine lv_icmp_ne (tgt := 36) hx hb d_G_quartersOf_22 (by decide) (fun c22 => ?_) (fun c22 => ?_)
        · have c22 := c22
          refine lv_iinc (v := (nI (t + 1))) (lv' := [(3, .int (nI (t + 1))), (2, .int (gp_qo F (F 14) x t)), (0, .ref (E.2.2.2 0)), (1, .int x)]) hx hb d_G_quartersOf_36 hl (k := 0) rfl (nI_1 _) (by decide) rfl (fun ls hl => ?_)
          refine lv_goto (tgt := 4) hx hb d_G_quartersOf_39 (by decide) ?_
          rw [show (gp_qo F (F 14) x t) = (gp_qo F (F 14) x (t + 1)) from by simp [gp_qo, h1, c12, nc12, c22]] at hl
          exact ih4 (t + 1) (by omega) (by omega) ls (lv_sub hl [0, 1, 2, 3] rfl)
        · have c22 := c22
          refine lv_iload_n hx hb d_G_quartersOf_25 rfl (lv_at hl 1 rfl) ?_
          refine lv_aload_n hx hb d_G_quartersOf_26 rfl (lv_at hl 2 rfl) ?_
          refine va_get (D := E.1) (cl := gp_cl) (ci := 0) (v := .ref (E.2.2.2 1)) (C := R_G) (T := T_G) (N := 8) hx hb hts i_G hown hK hP 0 rfl rfl 0 (by decide) (hts _ w1_117) (fun _ h9 => h9) rfl d_G_quartersOf_27 ?_
          refine lv_iload_n hx hb d_G_quartersOf_30 rfl (lv_at hl 0 rfl) ?_
          refine gp_cR (q0 := 1) (ci := 1) (As := [.int (nI t)]) (rest := [.int (gp_qo F (F 14) x t)]) ⟨hx, hb, hml, hown, hts⟩ (c_D_lengthOf l E I F nt t hT hnt (by omega)) (k_G_189 hts ⟨by decide, by decide⟩ rfl rfl) hK hP rfl rfl rfl hl.1 rfl (Nat.le_of_ble_eq_true rfl) d_G_quartersOf_31 ⟨Nat.le_of_ble_eq_true rfl, Nat.le_of_ble_eq_true rfl⟩ ?_
          refine lv_iadd hx hb d_G_quartersOf_34 ?_
          refine lv_istore_n (lv' := [(2, .int ((gp_qo F (F 14) x t) + (F 6 t - F 5 t))), (3, .int (nI t)), (0, .ref (E.2.2.2 0)), (1, .int x)]) hx hb d_G_quartersOf_35 rfl hl (by decide) rfl (fun ls hl => ?_)
          refine lv_iinc (v := (nI (t + 1))) (lv' := [(3, .int (nI (t + 1))), (2, .int ((gp_qo F (F 14) x t) + (F 6 t - F 5 t))), (0, .ref (E.2.2.2 0)), (1, .int x)]) hx hb d_G_quartersOf_36 hl (k := 1) rfl (nI_1 _) (by decide) rfl (fun ls hl => ?_)
          refine lv_goto (tgt := 4) hx hb d_G_quartersOf_39 (by decide) ?_
          rw [show ((gp_qo F (F 14) x t) + (F 6 t - F 5 t)) = (gp_qo F (F 14) x (t + 1)) from by simp [gp_qo, h1, c12, nc12, c22]] at hl
          exact ih4 (t + 1) (by omega) (by omega) ls (lv_sub hl [0, 1, 2, 3] rfl)
  exact L4 (nt + 1) 0 (Nat.zero_le _) (by omega) ls (lv_sub hl [0, 1, 2, 3] rfl)
set_option maxHeartbeats 4000000 in
set_option maxRecDepth 100000 in
theorem c_G_planCost (l : Launch) (E : gp_E) (I : Nat → Int32) (F : Nat → Nat → Int32) (np nt : Nat) (hp4 : I 4 = nI np) (hnp : np ≤ 4) (hT : I 6 = nI nt) (hnt : nt ≤ 6) : gp_CR l y_G_planCost b_G_planCost 4 (some .int) 2 E (gp_wG E I F) [.ref (E.2.2.2 0)] (gp_e2 (F 14) nt np) := by
  refine gp_ofR (by decide) (Nat.le_of_ble_eq_true rfl) ?_
  intro xp xe xs xm below meth xc ls hx hb hr hts hown hlocks hml hP hK hl
  have hown : xs.vm.findClass "GuidePlans" = some xm.cls := hown
  have hl : lv_has ls 4 [(0, .ref (E.2.2.2 0))] := hl
  refine lv_iconst (v := 0) hx hb d_G_planCost_0 (by decide) ?_
  refine lv_istore_n (lv' := [(1, .int 0), (0, .ref (E.2.2.2 0))]) hx hb d_G_planCost_1 rfl hl (by decide) rfl (fun ls hl => ?_)
  refine lv_iconst (v := 0) hx hb d_G_planCost_2 (by decide) ?_
  refine lv_istore_n (lv' := [(2, .int 0), (1, .int 0), (0, .ref (E.2.2.2 0))]) hx hb d_G_planCost_3 rfl hl (by decide) rfl (fun ls hl => ?_)
  have L4 : ∀ (n : Nat) (t : Nat), t ≤ nt → nt + 1 ≤ t + n → ∀ (ls : Array Slot), lv_has ls 4 [(2, .int (nI t)), (1, .int (gp_e1 (F 14) t)), (0, .ref (E.2.2.2 0))] → W xp l xe (gp_rm 2 0 0) xs xm ([.ref (E.2.2.2 0)] : List Value).toArray below meth xc xs.heap [] 0 0 (MQ below (QcRead (gp_e2 (F 14) nt np)) ([.ref (E.2.2.2 0)] : List Value).toArray xs 0 0 (fun _ => False)) (F0 xm 4 ls []) := by
    intro n
    induction n with
    | zero =>
      intro t h1 hm
      exact absurd hm (by omega)
    | succ n ih4 =>
      intro t h1 hm ls hl
      refine lv_iload_n hx hb d_G_planCost_4 rfl (lv_at hl 0 rfl) ?_
      refine lv_aload_n hx hb d_G_planCost_5 rfl (lv_at hl 2 rfl) ?_
      refine va_get (D := E.1) (cl := gp_cl) (ci := 0) (v := .ref (E.2.2.2 1)) (C := R_G) (T := T_G) (N := 8) hx hb hts i_G hown hK hP 0 rfl rfl 0 (by decide) (hts _ w1_117) (fun _ h9 => h9) rfl d_G_planCost_6 ?_
      refine va_get (D := E.1) (cl := gp_cl) (ci := 1) (v := .int (nI nt)) (C := R_D) (T := T_D) (N := 13) hx hb hts i_D hown hK hP 1 rfl rfl 10 (by decide) (hts _ w1_46) (fun _ h9 => h9) (congrArg (fun z => some (Value.int z)) hT) d_G_planCost_9 ?_
      refine lv_icmp_ge (tgt := 34) hx hb d_G_planCost_12 (by decide) (fun c12 => ?_) (fun c12 => ?_)
      · have c12 := c12
        have nc12 : nt ≤ t := (nI_leI (a := nt) (b := t) (by omega) (by omega)).mp c12
        have hte : nt = t := by omega
        subst hte
        refine lv_iconst (v := 0) hx hb d_G_planCost_34 (by decide) ?_
        refine lv_istore_n (lv' := [(2, .int 0), (1, .int (gp_e1 (F 14) nt)), (0, .ref (E.2.2.2 0))]) hx hb d_G_planCost_35 rfl hl (by decide) rfl (fun ls hl => ?_)
        have L36 : ∀ (n : Nat) (p : Nat), p ≤ np → np + 1 ≤ p + n → ∀ (ls : Array Slot), lv_has ls 4 [(2, .int (nI p)), (1, .int (gp_e2 (F 14) nt p)), (0, .ref (E.2.2.2 0))] → W xp l xe (gp_rm 2 0 0) xs xm ([.ref (E.2.2.2 0)] : List Value).toArray below meth xc xs.heap [] 0 0 (MQ below (QcRead (gp_e2 (F 14) nt np)) ([.ref (E.2.2.2 0)] : List Value).toArray xs 0 0 (fun _ => False)) (F0 xm 36 ls []) := by
          intro n
          induction n with
          | zero =>
            intro p h1 hm
            exact absurd hm (by omega)
          | succ n ih36 =>
            intro p h1 hm ls hl
            refine lv_iload_n hx hb d_G_planCost_36 rfl (lv_at hl 0 rfl) ?_
            refine lv_aload_n hx hb d_G_planCost_37 rfl (lv_at hl 2 rfl) ?_
            refine va_get (D := E.1) (cl := gp_cl) (ci := 0) (v := .ref (E.2.2.2 1)) (C := R_G) (T := T_G) (N := 8) hx hb hts i_G hown hK hP 0 rfl rfl 0 (by decide) (hts _ w1_117) (fun _ h9 => h9) rfl d_G_planCost_38 ?_
            refine va_get (D := E.1) (cl := gp_cl) (ci := 1) (v := .int (nI np)) (C := R_D) (T := T_D) (N := 13) hx hb hts i_D hown hK hP 1 rfl rfl 8 (by decide) (hts _ w1_40) (fun _ h9 => h9) (congrArg (fun z => some (Value.int z)) hp4) d_G_planCost_41 ?_
            refine lv_icmp_ge (tgt := 65) hx hb d_G_planCost_44 (by decide) (fun c44 => ?_) (fun c44 => ?_)
            · have c44 := c44
              have nc44 : np ≤ p := (nI_leI (a := np) (b := p) (by omega) (by omega)).mp c44
              refine lv_iload_n hx hb d_G_planCost_65 rfl (lv_at hl 1 rfl) ?_
              exact gp_ri hx hb hr hlocks (by rw [show p = np by omega]) d_G_planCost_66
            · have c44 := c44
              have nc44 : ¬ np ≤ p := fun h => c44 ((nI_leI (a := np) (b := p) (by omega) (by omega)).mpr h)
              refine lv_aload_n hx hb d_G_planCost_47 rfl (lv_at hl 2 rfl) ?_
              refine lv_iload_n hx hb d_G_planCost_48 rfl (lv_at hl 0 rfl) ?_
              refine gp_cR (q0 := 0) (ci := 0) (As := [.int (nI p)]) (rest := []) ⟨hx, hb, hml, hown, hts⟩ (c_G_numberOfTasks l E I F nt (nI p) hT hnt) (k_G_154 hts ⟨by decide, by decide⟩ rfl rfl) hK hP rfl rfl rfl hl.1 rfl (Nat.le_of_ble_eq_true rfl) d_G_planCost_49 ⟨Nat.le_of_ble_eq_true rfl, Nat.le_of_ble_eq_true rfl⟩ ?_
              refine lv_istore_n (lv' := [(3, .int (gp_nu (F 14) (nI p) nt)), (2, .int (nI p)), (1, .int (gp_e2 (F 14) nt p)), (0, .ref (E.2.2.2 0))]) hx hb d_G_planCost_52 rfl hl (by decide) rfl (fun ls hl => ?_)
              refine lv_iload_n hx hb d_G_planCost_53 rfl (lv_at hl 2 rfl) ?_
              refine lv_iload_n hx hb d_G_planCost_54 rfl (lv_at hl 0 rfl) ?_
              refine lv_iload_n hx hb d_G_planCost_55 rfl (lv_at hl 0 rfl) ?_
              refine lv_imul hx hb d_G_planCost_56 ?_
              refine lv_iadd hx hb d_G_planCost_57 ?_
              refine lv_istore_n (lv' := [(1, .int ((gp_e2 (F 14) nt p) + ((gp_nu (F 14) (nI p) nt) * (gp_nu (F 14) (nI p) nt)))), (3, .int (gp_nu (F 14) (nI p) nt)), (2, .int (nI p)), (0, .ref (E.2.2.2 0))]) hx hb d_G_planCost_58 rfl hl (by decide) rfl (fun ls hl => ?_)
              refine lv_iinc (v := (nI (p + 1))) (lv' := [(2, .int (nI (p + 1))), (1, .int ((gp_e2 (F 14) nt p) + ((gp_nu (F 14) (nI p) nt) * (gp_nu (F 14) (nI p) nt)))), (3, .int (gp_nu (F 14) (nI p) nt)), (0, .ref (E.2.2.2 0))]) hx hb d_G_planCost_59 hl (k := 2) rfl (nI_1 _) (by decide) rfl (fun ls hl => ?_)
              refine lv_goto (tgt := 36) hx hb d_G_planCost_62 (by decide) ?_
              rw [show ((gp_e2 (F 14) nt p) + ((gp_nu (F 14) (nI p) nt) * (gp_nu (F 14) (nI p) nt))) = (gp_e2 (F 14) nt (p + 1)) from rfl] at hl
              exact ih36 (p + 1) (by omega) (by omega) ls (lv_sub hl [0, 1, 3] rfl)
        exact L36 (np + 1) 0 (Nat.zero_le _) (by omega) ls (lv_sub hl [0, 1, 2] rfl)
      · have c12 := c12
        have nc12 : ¬ nt ≤ t := fun h => c12 ((nI_leI (a := nt) (b := t) (by omega) (by omega)).mpr h)
        refine lv_aload_n hx hb d_G_planCost_15 rfl (lv_at hl 2 rfl) ?_
        refine va_get (D := E.1) (cl := gp_cl) (ci := 0) (v := .ref (E.2.2.2 17)) (C := R_G) (T := T_G) (N := 8) hx hb hts i_G hown hK hP 0 rfl rfl 2 (by decide) (hts _ w1_119) (fun _ h9 => h9) rfl d_G_planCost_16 ?_
        refine lv_iload_n hx hb d_G_planCost_19 rfl (lv_at hl 0 rfl) ?_
        refine gp_ald (f := (F 14)) (n := 6) hx hb hK hP 17 rfl (t) rfl (by omega) (by decide) d_G_planCost_20 ?_
        refine lv_iconst (v := (-1)) hx hb d_G_planCost_21 (by decide) ?_
        refine lv_icmp_ne (tgt := 28) hx hb d_G_planCost_22 (by decide) (fun c22 => ?_) (fun c22 => ?_)
        · have c22 := c22
          refine lv_iinc (v := (nI (t + 1))) (lv' := [(2, .int (nI (t + 1))), (1, .int (gp_e1 (F 14) t)), (0, .ref (E.2.2.2 0))]) hx hb d_G_planCost_28 hl (k := 0) rfl (nI_1 _) (by decide) rfl (fun ls hl => ?_)
          refine lv_goto (tgt := 4) hx hb d_G_planCost_31 (by decide) ?_
          rw [show (gp_e1 (F 14) t) = (gp_e1 (F 14) (t + 1)) from by simp [gp_e1, h1, c12, nc12, c22]] at hl
          exact ih4 (t + 1) (by omega) (by omega) ls (lv_sub hl [0, 1, 2] rfl)
        · have c22 := c22
          refine lv_iinc (v := ((gp_e1 (F 14) t) + 100)) (lv' := [(1, .int ((gp_e1 (F 14) t) + 100)), (2, .int (nI t)), (0, .ref (E.2.2.2 0))]) hx hb d_G_planCost_25 hl (k := 1) rfl rfl (by decide) rfl (fun ls hl => ?_)
          refine lv_iinc (v := (nI (t + 1))) (lv' := [(2, .int (nI (t + 1))), (1, .int ((gp_e1 (F 14) t) + 100)), (0, .ref (E.2.2.2 0))]) hx hb d_G_planCost_28 hl (k := 1) rfl (nI_1 _) (by decide) rfl (fun ls hl => ?_)
          refine lv_goto (tgt := 4) hx hb d_G_planCost_31 (by decide) ?_
          rw [show ((gp_e1 (F 14) t) + 100) = (gp_e1 (F 14) (t + 1)) from by simp [gp_e1, h1, c12, nc12, c22]] at hl
          exact ih4 (t + 1) (by omega) (by omega) ls (lv_sub hl [0, 1, 2] rfl)
  exact L4 (nt + 1) 0 (Nat.zero_le _) (by omega) ls (lv_sub hl [0, 1, 2] rfl)
set_option maxHeartbeats 4000000 in
set_option maxRecDepth 100000 in
theorem c_G_empties (l : Launch) (E : gp_E) (I : Nat → Int32) (F : Nat → Nat → Int32) (t : Nat) (x : Int32) (ht : t < 6) : gp_CR l y_G_empties b_G_empties 3 (some .boolean) 1 E (gp_wG E I F) [.ref (E.2.2.2 0), .int (nI t), .int x] (if (!decide (F 7 t = 0) && decide (x = -1)) then 1 else 0) := by
  refine gp_ofR (by decide) (Nat.le_of_ble_eq_true rfl) ?_
  intro xp xe xs xm below meth xc ls hx hb hr hts hown hlocks hml hP hK hl
  have hown : xs.vm.findClass "GuidePlans" = some xm.cls := hown
  have hl : lv_has ls 3 [(0, .ref (E.2.2.2 0)), (1, .int (nI t)), (2, .int x)] := hl
  refine lv_aload_n hx hb d_G_empties_0 rfl (lv_at hl 0 rfl) ?_
  refine va_get (D := E.1) (cl := gp_cl) (ci := 0) (v := .ref (E.2.2.2 1)) (C := R_G) (T := T_G) (N := 8) hx hb hts i_G hown hK hP 0 rfl rfl 0 (by decide) (hts _ w1_117) (fun _ h9 => h9) rfl d_G_empties_1 ?_
  refine va_get (D := E.1) (cl := gp_cl) (ci := 1) (v := .ref (E.2.2.2 10)) (C := R_D) (T := T_D) (N := 13) hx hb hts i_D hown hK hP 1 rfl rfl 7 (by decide) (hts _ w1_38) (fun _ h9 => h9) rfl d_G_empties_4 ?_
  refine lv_iload_n hx hb d_G_empties_7 rfl (lv_at hl 1 rfl) ?_
  refine gp_zld (f := (F 7)) (n := 6) hx hb hK hP 10 rfl (t) rfl (by omega) (by decide) d_G_empties_8 ?_
  refine lv_if_eq (tgt := 21) hx hb d_G_empties_9 (by decide) (fun c9 => ?_) (fun c9 => ?_)
  · have c9 := c9
    refine lv_iconst (v := 0) hx hb d_G_empties_21 (by decide) ?_
    exact gp_rz hx hb hr hlocks (rfl) (by simp [c9]) d_G_empties_22
  · have c9 := c9
    refine lv_iload_n hx hb d_G_empties_12 rfl (lv_at hl 2 rfl) ?_
    refine lv_iconst (v := (-1)) hx hb d_G_empties_13 (by decide) ?_
    refine lv_icmp_ne (tgt := 21) hx hb d_G_empties_14 (by decide) (fun c14 => ?_) (fun c14 => ?_)
    · have c14 := c14
      refine lv_iconst (v := 0) hx hb d_G_empties_21 (by decide) ?_
      exact gp_rz hx hb hr hlocks (rfl) (by simp [c9, c14]) d_G_empties_22
    · have c14 := c14
      refine lv_iconst (v := 1) hx hb d_G_empties_17 (by decide) ?_
      refine lv_goto (tgt := 22) hx hb d_G_empties_18 (by decide) ?_
      exact gp_rz hx hb hr hlocks (rfl) (by simp [c9, c14]) d_G_empties_22
set_option maxHeartbeats 4000000 in
set_option maxRecDepth 100000 in
theorem c_G_hasTasksTooNear (l : Launch) (E : gp_E) (I : Nat → Int32) (F : Nat → Nat → Int32) (nt : Nat) (x : Int32) (hT : I 6 = nI nt) (hnt : nt ≤ 6) : gp_CR l y_G_hasTasksTooNear b_G_hasTasksTooNear 4 (some .boolean) 3 E (gp_wG E I F) [.ref (E.2.2.2 0), .int x] (if gp_htn I F x nt then 1 else 0) := by
  refine gp_ofR (by decide) (Nat.le_of_ble_eq_true rfl) ?_
  intro xp xe xs xm below meth xc ls hx hb hr hts hown hlocks hml hP hK hl
  have hown : xs.vm.findClass "GuidePlans" = some xm.cls := hown
  have hl : lv_has ls 4 [(0, .ref (E.2.2.2 0)), (1, .int x)] := hl
  refine lv_iload_n hx hb d_G_hasTasksTooNear_0 rfl (lv_at hl 1 rfl) ?_
  refine lv_iconst (v := (-1)) hx hb d_G_hasTasksTooNear_1 (by decide) ?_
  refine lv_icmp_ne (tgt := 7) hx hb d_G_hasTasksTooNear_2 (by decide) (fun c2 => ?_) (fun c2 => ?_)
  · have c2 := c2
    refine lv_iconst (v := 0) hx hb d_G_hasTasksTooNear_7 (by decide) ?_
    refine lv_istore_n (lv' := [(2, .int 0), (0, .ref (E.2.2.2 0)), (1, .int x)]) hx hb d_G_hasTasksTooNear_8 rfl hl (by decide) rfl (fun ls hl => ?_)
    have L9 : ∀ (n : Nat) (t : Nat), t ≤ nt → gp_ho I F x nt t = false → nt + 1 ≤ t + n → ∀ (ls : Array Slot), lv_has ls 4 [(2, .int (nI t)), (0, .ref (E.2.2.2 0)), (1, .int x)] → W xp l xe (gp_rm 3 0 0) xs xm ([.ref (E.2.2.2 0), .int x] : List Value).toArray below meth xc xs.heap [] 0 0 (MQ below (QcRead (if gp_htn I F x nt then 1 else 0)) ([.ref (E.2.2.2 0), .int x] : List Value).toArray xs 0 0 (fun _ => False)) (F0 xm 9 ls []) := by
      intro n
      induction n with
      | zero =>
        intro t h1 h2 hm
        exact absurd hm (by omega)
      | succ n ih9 =>
        intro t h1 h2 hm ls hl
        refine lv_iload_n hx hb d_G_hasTasksTooNear_9 rfl (lv_at hl 0 rfl) ?_
        refine lv_aload_n hx hb d_G_hasTasksTooNear_10 rfl (lv_at hl 1 rfl) ?_
        refine va_get (D := E.1) (cl := gp_cl) (ci := 0) (v := .ref (E.2.2.2 1)) (C := R_G) (T := T_G) (N := 8) hx hb hts i_G hown hK hP 0 rfl rfl 0 (by decide) (hts _ w1_117) (fun _ h9 => h9) rfl d_G_hasTasksTooNear_11 ?_
        refine va_get (D := E.1) (cl := gp_cl) (ci := 1) (v := .int (nI nt)) (C := R_D) (T := T_D) (N := 13) hx hb hts i_D hown hK hP 1 rfl rfl 10 (by decide) (hts _ w1_46) (fun _ h9 => h9) (congrArg (fun z => some (Value.int z)) hT) d_G_hasTasksTooNear_14 ?_
        refine lv_icmp_ge (tgt := 81) hx hb d_G_hasTasksTooNear_17 (by decide) (fun c17 => ?_) (fun c17 => ?_)
        · have c17 := c17
          have nc17 : nt ≤ t := (nI_leI (a := nt) (b := t) (by omega) (by omega)).mp c17
          refine lv_iconst (v := 0) hx hb d_G_hasTasksTooNear_81 (by decide) ?_
          exact gp_rz hx hb hr hlocks (rfl) (by rw [show gp_htn I F x nt = false from by simp [gp_htn, c2, show gp_ho I F x nt nt = false from (show t = nt by omega) ▸ h2]]; rfl) d_G_hasTasksTooNear_82
        · have c17 := c17
          have nc17 : ¬ nt ≤ t := fun h => c17 ((nI_leI (a := nt) (b := t) (by omega) (by omega)).mpr h)
          refine lv_iload_n hx hb d_G_hasTasksTooNear_20 rfl (lv_at hl 0 rfl) ?_
          refine lv_iconst (v := 1) hx hb d_G_hasTasksTooNear_21 (by decide) ?_
          refine lv_iadd hx hb d_G_hasTasksTooNear_22 ?_
          rw [show ((nI t) + 1) = (nI (t + 1)) from nI_1 _]
          refine lv_istore_n (lv' := [(3, .int (nI (t + 1))), (2, .int (nI t)), (0, .ref (E.2.2.2 0)), (1, .int x)]) hx hb d_G_hasTasksTooNear_23 rfl hl (by decide) rfl (fun ls hl => ?_)
          have L24 : ∀ (n : Nat) (u : Nat), u ≤ nt → t < u → gp_hi I F x t u = false → nt + 1 ≤ u + n → ∀ (ls : Array Slot), lv_has ls 4 [(3, .int (nI u)), (2, .int (nI t)), (0, .ref (E.2.2.2 0)), (1, .int x)] → W xp l xe (gp_rm 3 0 0) xs xm ([.ref (E.2.2.2 0), .int x] : List Value).toArray below meth xc xs.heap [] 0 0 (MQ below (QcRead (if gp_htn I F x nt then 1 else 0)) ([.ref (E.2.2.2 0), .int x] : List Value).toArray xs 0 0 (fun _ => False)) (F0 xm 24 ls []) := by
            intro n
            induction n with
            | zero =>
              intro u k1 k0 k2 hm
              exact absurd hm (by omega)
            | succ n ih24 =>
              intro u k1 k0 k2 hm ls hl
              refine lv_iload_n hx hb d_G_hasTasksTooNear_24 rfl (lv_at hl 0 rfl) ?_
              refine lv_aload_n hx hb d_G_hasTasksTooNear_25 rfl (lv_at hl 2 rfl) ?_
              refine va_get (D := E.1) (cl := gp_cl) (ci := 0) (v := .ref (E.2.2.2 1)) (C := R_G) (T := T_G) (N := 8) hx hb hts i_G hown hK hP 0 rfl rfl 0 (by decide) (hts _ w1_117) (fun _ h9 => h9) rfl d_G_hasTasksTooNear_26 ?_
              refine va_get (D := E.1) (cl := gp_cl) (ci := 1) (v := .int (nI nt)) (C := R_D) (T := T_D) (N := 13) hx hb hts i_D hown hK hP 1 rfl rfl 10 (by decide) (hts _ w1_46) (fun _ h9 => h9) (congrArg (fun z => some (Value.int z)) hT) d_G_hasTasksTooNear_29 ?_
              refine lv_icmp_ge (tgt := 75) hx hb d_G_hasTasksTooNear_32 (by decide) (fun c32 => ?_) (fun c32 => ?_)
              · have c32 := c32
                have nc32 : nt ≤ u := (nI_leI (a := nt) (b := u) (by omega) (by omega)).mp c32
                refine lv_iinc (v := (nI (t + 1))) (lv' := [(2, .int (nI (t + 1))), (3, .int (nI u)), (0, .ref (E.2.2.2 0)), (1, .int x)]) hx hb d_G_hasTasksTooNear_75 hl (k := 1) rfl (nI_1 _) (by decide) rfl (fun ls hl => ?_)
                refine lv_goto (tgt := 9) hx hb d_G_hasTasksTooNear_78 (by decide) ?_
                exact ih9 (t + 1) (by omega) (by simp [gp_ho, h2, show gp_hi I F x t nt = false from (show u = nt by omega) ▸ k2]) (by omega) ls (lv_sub hl [0, 2, 3] rfl)
              · have c32 := c32
                have nc32 : ¬ nt ≤ u := fun h => c32 ((nI_leI (a := nt) (b := u) (by omega) (by omega)).mpr h)
                refine lv_aload_n hx hb d_G_hasTasksTooNear_35 rfl (lv_at hl 2 rfl) ?_
                refine va_get (D := E.1) (cl := gp_cl) (ci := 0) (v := .ref (E.2.2.2 17)) (C := R_G) (T := T_G) (N := 8) hx hb hts i_G hown hK hP 0 rfl rfl 2 (by decide) (hts _ w1_119) (fun _ h9 => h9) rfl d_G_hasTasksTooNear_36 ?_
                refine lv_iload_n hx hb d_G_hasTasksTooNear_39 rfl (lv_at hl 1 rfl) ?_
                refine gp_ald (f := (F 14)) (n := 6) hx hb hK hP 17 rfl (t) rfl (by omega) (by decide) d_G_hasTasksTooNear_40 ?_
                refine lv_iload_n hx hb d_G_hasTasksTooNear_41 rfl (lv_at hl 3 rfl) ?_
                refine lv_icmp_ne (tgt := 69) hx hb d_G_hasTasksTooNear_42 (by decide) (fun c42 => ?_) (fun c42 => ?_)
                · have c42 := c42
                  refine lv_iinc (v := (nI (u + 1))) (lv' := [(3, .int (nI (u + 1))), (2, .int (nI t)), (0, .ref (E.2.2.2 0)), (1, .int x)]) hx hb d_G_hasTasksTooNear_69 hl (k := 0) rfl (nI_1 _) (by decide) rfl (fun ls hl => ?_)
                  refine lv_goto (tgt := 24) hx hb d_G_hasTasksTooNear_72 (by decide) ?_
                  exact ih24 (u + 1) (by omega) (by omega) (by simp [gp_hi, gp_pr, c2, h1, h2, c17, nc17, k1, k0, k2, c32, nc32, c42]) (by omega) ls (lv_sub hl [0, 1, 2, 3] rfl)
                · have c42 := c42
                  refine lv_aload_n hx hb d_G_hasTasksTooNear_45 rfl (lv_at hl 2 rfl) ?_
                  refine va_get (D := E.1) (cl := gp_cl) (ci := 0) (v := .ref (E.2.2.2 17)) (C := R_G) (T := T_G) (N := 8) hx hb hts i_G hown hK hP 0 rfl rfl 2 (by decide) (hts _ w1_119) (fun _ h9 => h9) rfl d_G_hasTasksTooNear_46 ?_
                  refine lv_iload_n hx hb d_G_hasTasksTooNear_49 rfl (lv_at hl 0 rfl) ?_
                  refine gp_ald (f := (F 14)) (n := 6) hx hb hK hP 17 rfl (u) rfl (by omega) (by decide) d_G_hasTasksTooNear_50 ?_
                  refine lv_iload_n hx hb d_G_hasTasksTooNear_51 rfl (lv_at hl 3 rfl) ?_
                  refine lv_icmp_ne (tgt := 69) hx hb d_G_hasTasksTooNear_52 (by decide) (fun c52 => ?_) (fun c52 => ?_)
                  · have c52 := c52
                    refine lv_iinc (v := (nI (u + 1))) (lv' := [(3, .int (nI (u + 1))), (2, .int (nI t)), (0, .ref (E.2.2.2 0)), (1, .int x)]) hx hb d_G_hasTasksTooNear_69 hl (k := 0) rfl (nI_1 _) (by decide) rfl (fun ls hl => ?_)
                    refine lv_goto (tgt := 24) hx hb d_G_hasTasksTooNear_72 (by decide) ?_
                    exact ih24 (u + 1) (by omega) (by omega) (by simp [gp_hi, gp_pr, c2, h1, h2, c17, nc17, k1, k0, k2, c32, nc32, c42, c52]) (by omega) ls (lv_sub hl [0, 1, 2, 3] rfl)
                  · have c52 := c52
                    refine lv_aload_n hx hb d_G_hasTasksTooNear_55 rfl (lv_at hl 2 rfl) ?_
                    refine va_get (D := E.1) (cl := gp_cl) (ci := 0) (v := .ref (E.2.2.2 1)) (C := R_G) (T := T_G) (N := 8) hx hb hts i_G hown hK hP 0 rfl rfl 0 (by decide) (hts _ w1_117) (fun _ h9 => h9) rfl d_G_hasTasksTooNear_56 ?_
                    refine lv_iload_n hx hb d_G_hasTasksTooNear_59 rfl (lv_at hl 1 rfl) ?_
                    refine lv_iload_n hx hb d_G_hasTasksTooNear_60 rfl (lv_at hl 0 rfl) ?_
                    refine gp_cR (q0 := 1) (ci := 1) (As := [.int (nI t), .int (nI u)]) (rest := []) ⟨hx, hb, hml, hown, hts⟩ (c_D_areTooNear l E I F nt t u hT hnt (by omega) (by omega)) (k_G_205 hts ⟨by decide, by decide⟩ rfl rfl) hK hP rfl rfl rfl hl.1 rfl (Nat.le_of_ble_eq_true rfl) d_G_hasTasksTooNear_61 ⟨Nat.le_of_ble_eq_true rfl, Nat.le_of_ble_eq_true rfl⟩ ?_
                    by_cases hs61 : gp_near I F t u = true
                    · rw [show ((if gp_near I F t u then 1 else 0) : Int32) = 1 from if_pos hs61]
                      refine lv_if_eq (tgt := 69) hx hb d_G_hasTasksTooNear_64 (by decide) (fun c64 => ?_) (fun c64 => ?_)
                      · exact absurd c64 (by decide)
                      · have c64 := c64
                        have nc64 : ¬ 1 = 0 := fun h => c64 ((nI_eq (a := 1) (b := 0) (by omega) (by omega)).mpr h)
                        refine lv_iconst (v := 1) hx hb d_G_hasTasksTooNear_67 (by decide) ?_
                        exact gp_rz hx hb hr hlocks (rfl) (by rw [show gp_htn I F x nt = true from by simp [gp_htn, c2, gp_ho_up (I := I) (F := F) (x := x) (nt := nt) (t := t) (gp_hi_up (I := I) (F := F) (x := x) (t := t) (u := u) (by simp [gp_pr, c2, h1, h2, c17, nc17, k1, k0, k2, c32, nc32, c42, c52, hs61, c64, nc64]) (by omega) nt (by omega)) nt (show t < nt by omega)]]; rfl) d_G_hasTasksTooNear_68
                    · rw [show ((if gp_near I F t u then 1 else 0) : Int32) = 0 from if_neg hs61]
                      refine lv_if_eq (tgt := 69) hx hb d_G_hasTasksTooNear_64 (by decide) (fun c64 => ?_) (fun c64 => ?_)
                      · have c64 := c64
                        have nc64 : 0 = 0 := (nI_eq (a := 0) (b := 0) (by omega) (by omega)).mp c64
                        refine lv_iinc (v := (nI (u + 1))) (lv' := [(3, .int (nI (u + 1))), (2, .int (nI t)), (0, .ref (E.2.2.2 0)), (1, .int x)]) hx hb d_G_hasTasksTooNear_69 hl (k := 0) rfl (nI_1 _) (by decide) rfl (fun ls hl => ?_)
                        refine lv_goto (tgt := 24) hx hb d_G_hasTasksTooNear_72 (by decide) ?_
                        exact ih24 (u + 1) (by omega) (by omega) (by simp [gp_hi, gp_pr, c2, h1, h2, c17, nc17, k1, k0, k2, c32, nc32, c42, c52, hs61, c64, nc64]) (by omega) ls (lv_sub hl [0, 1, 2, 3] rfl)
                      · exact absurd c64 (by decide)
          exact L24 (nt + 1) (t + 1) (by omega) (by omega) (gp_hi_0 _ (Nat.le_refl _)) (by omega) ls (lv_sub hl [0, 1, 2, 3] rfl)
    exact L9 (nt + 1) 0 (Nat.zero_le _) rfl (by omega) ls (lv_sub hl [0, 1, 2] rfl)
  · have c2 := c2
    refine lv_iconst (v := 0) hx hb d_G_hasTasksTooNear_5 (by decide) ?_
    exact gp_rz hx hb hr hlocks (rfl) (by simp [gp_htn, c2]) d_G_hasTasksTooNear_6
set_option maxHeartbeats 4000000 in
set_option maxRecDepth 100000 in
theorem c_G_worksTooLong (l : Launch) (E : gp_E) (I : Nat → Int32) (F : Nat → Nat → Int32) (nt : Nat) (x : Int32) (hT : I 6 = nI nt) (hnt : nt ≤ 6) : gp_CR l y_G_worksTooLong b_G_worksTooLong 2 (some .boolean) 4 E (gp_wG E I F) [.ref (E.2.2.2 0), .int x] (if gp_wtl I F x nt then 1 else 0) := by
  refine gp_ofR (by decide) (Nat.le_of_ble_eq_true rfl) ?_
  intro xp xe xs xm below meth xc ls hx hb hr hts hown hlocks hml hP hK hl
  have hown : xs.vm.findClass "GuidePlans" = some xm.cls := hown
  have hl : lv_has ls 2 [(0, .ref (E.2.2.2 0)), (1, .int x)] := hl
  refine lv_iload_n hx hb d_G_worksTooLong_0 rfl (lv_at hl 1 rfl) ?_
  refine lv_iconst (v := (-1)) hx hb d_G_worksTooLong_1 (by decide) ?_
  refine lv_icmp_eq (tgt := 24) hx hb d_G_worksTooLong_2 (by decide) (fun c2 => ?_) (fun c2 => ?_)
  · have c2 := c2
    refine lv_iconst (v := 0) hx hb d_G_worksTooLong_24 (by decide) ?_
    exact gp_rz hx hb hr hlocks (rfl) (by simp [gp_wtl, c2]) d_G_worksTooLong_25
  · have c2 := c2
    refine lv_aload_n hx hb d_G_worksTooLong_5 rfl (lv_at hl 0 rfl) ?_
    refine lv_iload_n hx hb d_G_worksTooLong_6 rfl (lv_at hl 1 rfl) ?_
    refine gp_cR (q0 := 0) (ci := 0) (As := [.int x]) (rest := []) ⟨hx, hb, hml, hown, hts⟩ (c_G_quartersOf l E I F nt x hT hnt) (k_G_151 hts ⟨by decide, by decide⟩ rfl rfl) hK hP rfl rfl rfl hl.1 rfl (Nat.le_of_ble_eq_true rfl) d_G_worksTooLong_7 ⟨Nat.le_of_ble_eq_true rfl, Nat.le_of_ble_eq_true rfl⟩ ?_
    refine lv_aload_n hx hb d_G_worksTooLong_10 rfl (lv_at hl 0 rfl) ?_
    refine va_get (D := E.1) (cl := gp_cl) (ci := 0) (v := .ref (E.2.2.2 1)) (C := R_G) (T := T_G) (N := 8) hx hb hts i_G hown hK hP 0 rfl rfl 0 (by decide) (hts _ w1_117) (fun _ h9 => h9) rfl d_G_worksTooLong_11 ?_
    refine va_get (D := E.1) (cl := gp_cl) (ci := 1) (v := .int (I 8)) (C := R_D) (T := T_D) (N := 13) hx hb hts i_D hown hK hP 1 rfl rfl 12 (by decide) (hts _ w1_50) (fun _ h9 => h9) rfl d_G_worksTooLong_14 ?_
    refine lv_icmp_le (tgt := 24) hx hb d_G_worksTooLong_17 (by decide) (fun c17 => ?_) (fun c17 => ?_)
    · have c17 := c17
      have mc17 : ¬ (I 8) < (gp_qo F (F 14) x nt) := Int32.not_lt.mpr c17
      refine lv_iconst (v := 0) hx hb d_G_worksTooLong_24 (by decide) ?_
      exact gp_rz hx hb hr hlocks (rfl) (by simp [gp_wtl, c2, c17, mc17]) d_G_worksTooLong_25
    · have c17 := c17
      have mc17 : (I 8) < (gp_qo F (F 14) x nt) := Int32.not_le.mp c17
      refine lv_iconst (v := 1) hx hb d_G_worksTooLong_20 (by decide) ?_
      refine lv_goto (tgt := 25) hx hb d_G_worksTooLong_21 (by decide) ?_
      exact gp_rz hx hb hr hlocks (rfl) (by simp [gp_wtl, c2, c17, mc17]) d_G_worksTooLong_25
set_option maxHeartbeats 4000000 in
set_option maxRecDepth 100000 in
theorem c_G_faultOfSets (l : Launch) (E : gp_E) (I : Nat → Int32) (F : Nat → Nat → Int32) (nt : Nat) (x y : Int32) (hT : I 6 = nI nt) (hnt : nt ≤ 6) : gp_CR l y_G_faultOfSets b_G_faultOfSets 3 (some .int) 5 E (gp_wG E I F) [.ref (E.2.2.2 0), .int x, .int y] (gp_fs I F x y nt) := by
  refine gp_ofR (by decide) (Nat.le_of_ble_eq_true rfl) ?_
  intro xp xe xs xm below meth xc ls hx hb hr hts hown hlocks hml hP hK hl
  have hown : xs.vm.findClass "GuidePlans" = some xm.cls := hown
  have hl : lv_has ls 3 [(0, .ref (E.2.2.2 0)), (1, .int x), (2, .int y)] := hl
  refine lv_aload_n hx hb d_G_faultOfSets_0 rfl (lv_at hl 0 rfl) ?_
  refine lv_iload_n hx hb d_G_faultOfSets_1 rfl (lv_at hl 1 rfl) ?_
  refine gp_cR (q0 := 0) (ci := 0) (As := [.int x]) (rest := []) ⟨hx, hb, hml, hown, hts⟩ (c_G_hasTasksTooNear l E I F nt x hT hnt) (k_G_199 hts ⟨by decide, by decide⟩ rfl rfl) hK hP rfl rfl rfl hl.1 rfl (Nat.le_of_ble_eq_true rfl) d_G_faultOfSets_2 ⟨Nat.le_of_ble_eq_true rfl, Nat.le_of_ble_eq_true rfl⟩ ?_
  by_cases hs2 : gp_htn I F x nt = true
  · rw [show ((if gp_htn I F x nt then 1 else 0) : Int32) = 1 from if_pos hs2]
    refine lv_if_ne (tgt := 16) hx hb d_G_faultOfSets_5 (by decide) (fun c5 => ?_) (fun c5 => ?_)
    · have c5 := c5
      have nc5 : ¬ 1 = 0 := fun h => c5 ((nI_eq (a := 1) (b := 0) (by omega) (by omega)).mpr h)
      refine lv_iconst (v := 4) hx hb d_G_faultOfSets_16 (by decide) ?_
      exact gp_ri hx hb hr hlocks (by simp [gp_fs, hs2, c5, nc5]) d_G_faultOfSets_17
    · exact absurd c5 (by decide)
  · rw [show ((if gp_htn I F x nt then 1 else 0) : Int32) = 0 from if_neg hs2]
    refine lv_if_ne (tgt := 16) hx hb d_G_faultOfSets_5 (by decide) (fun c5 => ?_) (fun c5 => ?_)
    · exact absurd c5 (by decide)
    · have c5 := c5
      have nc5 : 0 = 0 := (nI_eq (a := 0) (b := 0) (by omega) (by omega)).mp c5
      refine lv_aload_n hx hb d_G_faultOfSets_8 rfl (lv_at hl 0 rfl) ?_
      refine lv_iload_n hx hb d_G_faultOfSets_9 rfl (lv_at hl 2 rfl) ?_
      refine gp_cR (q0 := 0) (ci := 0) (As := [.int y]) (rest := []) ⟨hx, hb, hml, hown, hts⟩ (c_G_hasTasksTooNear l E I F nt y hT hnt) (k_G_199 hts ⟨by decide, by decide⟩ rfl rfl) hK hP rfl rfl rfl hl.1 rfl (Nat.le_of_ble_eq_true rfl) d_G_faultOfSets_10 ⟨Nat.le_of_ble_eq_true rfl, Nat.le_of_ble_eq_true rfl⟩ ?_
      by_cases hs10 : gp_htn I F y nt = true
      · rw [show ((if gp_htn I F y nt then 1 else 0) : Int32) = 1 from if_pos hs10]
        refine lv_if_eq (tgt := 18) hx hb d_G_faultOfSets_13 (by decide) (fun c13 => ?_) (fun c13 => ?_)
        · exact absurd c13 (by decide)
        · have c13 := c13
          have nc13 : ¬ 1 = 0 := fun h => c13 ((nI_eq (a := 1) (b := 0) (by omega) (by omega)).mpr h)
          refine lv_iconst (v := 4) hx hb d_G_faultOfSets_16 (by decide) ?_
          exact gp_ri hx hb hr hlocks (by simp [gp_fs, hs2, c5, nc5, hs10, c13, nc13]) d_G_faultOfSets_17
      · rw [show ((if gp_htn I F y nt then 1 else 0) : Int32) = 0 from if_neg hs10]
        refine lv_if_eq (tgt := 18) hx hb d_G_faultOfSets_13 (by decide) (fun c13 => ?_) (fun c13 => ?_)
        · have c13 := c13
          have nc13 : 0 = 0 := (nI_eq (a := 0) (b := 0) (by omega) (by omega)).mp c13
          refine lv_aload_n hx hb d_G_faultOfSets_18 rfl (lv_at hl 0 rfl) ?_
          refine lv_iload_n hx hb d_G_faultOfSets_19 rfl (lv_at hl 1 rfl) ?_
          refine gp_cR (q0 := 0) (ci := 0) (As := [.int x]) (rest := []) ⟨hx, hb, hml, hown, hts⟩ (c_G_worksTooLong l E I F nt x hT hnt) (k_G_202 hts ⟨by decide, by decide⟩ rfl rfl) hK hP rfl rfl rfl hl.1 rfl (Nat.le_of_ble_eq_true rfl) d_G_faultOfSets_20 ⟨Nat.le_of_ble_eq_true rfl, Nat.le_of_ble_eq_true rfl⟩ ?_
          by_cases hs20 : gp_wtl I F x nt = true
          · rw [show ((if gp_wtl I F x nt then 1 else 0) : Int32) = 1 from if_pos hs20]
            refine lv_if_ne (tgt := 34) hx hb d_G_faultOfSets_23 (by decide) (fun c23 => ?_) (fun c23 => ?_)
            · have c23 := c23
              have nc23 : ¬ 1 = 0 := fun h => c23 ((nI_eq (a := 1) (b := 0) (by omega) (by omega)).mpr h)
              refine lv_iconst (v := 5) hx hb d_G_faultOfSets_34 (by decide) ?_
              exact gp_ri hx hb hr hlocks (by simp [gp_fs, hs2, c5, nc5, hs10, c13, nc13, hs20, c23, nc23]) d_G_faultOfSets_35
            · exact absurd c23 (by decide)
          · rw [show ((if gp_wtl I F x nt then 1 else 0) : Int32) = 0 from if_neg hs20]
            refine lv_if_ne (tgt := 34) hx hb d_G_faultOfSets_23 (by decide) (fun c23 => ?_) (fun c23 => ?_)
            · exact absurd c23 (by decide)
            · have c23 := c23
              have nc23 : 0 = 0 := (nI_eq (a := 0) (b := 0) (by omega) (by omega)).mp c23
              refine lv_aload_n hx hb d_G_faultOfSets_26 rfl (lv_at hl 0 rfl) ?_
              refine lv_iload_n hx hb d_G_faultOfSets_27 rfl (lv_at hl 2 rfl) ?_
              refine gp_cR (q0 := 0) (ci := 0) (As := [.int y]) (rest := []) ⟨hx, hb, hml, hown, hts⟩ (c_G_worksTooLong l E I F nt y hT hnt) (k_G_202 hts ⟨by decide, by decide⟩ rfl rfl) hK hP rfl rfl rfl hl.1 rfl (Nat.le_of_ble_eq_true rfl) d_G_faultOfSets_28 ⟨Nat.le_of_ble_eq_true rfl, Nat.le_of_ble_eq_true rfl⟩ ?_
              by_cases hs28 : gp_wtl I F y nt = true
              · rw [show ((if gp_wtl I F y nt then 1 else 0) : Int32) = 1 from if_pos hs28]
                refine lv_if_eq (tgt := 36) hx hb d_G_faultOfSets_31 (by decide) (fun c31 => ?_) (fun c31 => ?_)
                · exact absurd c31 (by decide)
                · have c31 := c31
                  have nc31 : ¬ 1 = 0 := fun h => c31 ((nI_eq (a := 1) (b := 0) (by omega) (by omega)).mpr h)
                  refine lv_iconst (v := 5) hx hb d_G_faultOfSets_34 (by decide) ?_
                  exact gp_ri hx hb hr hlocks (by simp [gp_fs, hs2, c5, nc5, hs10, c13, nc13, hs20, c23, nc23, hs28, c31, nc31]) d_G_faultOfSets_35
              · rw [show ((if gp_wtl I F y nt then 1 else 0) : Int32) = 0 from if_neg hs28]
                refine lv_if_eq (tgt := 36) hx hb d_G_faultOfSets_31 (by decide) (fun c31 => ?_) (fun c31 => ?_)
                · have c31 := c31
                  have nc31 : 0 = 0 := (nI_eq (a := 0) (b := 0) (by omega) (by omega)).mp c31
                  refine lv_iconst (v := 0) hx hb d_G_faultOfSets_36 (by decide) ?_
                  exact gp_ri hx hb hr hlocks (by simp [gp_fs, hs2, c5, nc5, hs10, c13, nc13, hs20, c23, nc23, hs28, c31, nc31]) d_G_faultOfSets_37
                · exact absurd c31 (by decide)
        · exact absurd c13 (by decide)
set_option maxHeartbeats 4000000 in
set_option maxRecDepth 100000 in
theorem c_G_isUnsuitedN (l : Launch) (E : gp_E) (I : Nat → Int32) (F : Nat → Nat → Int32) (t : Nat) : gp_CR l y_G_isUnsuited b_G_isUnsuited 3 (some .boolean) 3 E (gp_wG E I F) [.ref (E.2.2.2 0), .int (nI t), .int (-1)] 0 := by
  refine gp_ofR (by decide) (Nat.le_of_ble_eq_true rfl) ?_
  intro xp xe xs xm below meth xc ls hx hb hr hts hown hlocks hml hP hK hl
  have hown : xs.vm.findClass "GuidePlans" = some xm.cls := hown
  have hl : lv_has ls 3 [(0, .ref (E.2.2.2 0)), (1, .int (nI t)), (2, .int (-1))] := hl
  refine lv_iload_n hx hb d_G_isUnsuited_0 rfl (lv_at hl 2 rfl) ?_
  refine lv_iconst (v := (-1)) hx hb d_G_isUnsuited_1 (by decide) ?_
  refine lv_icmp_eq (tgt := 21) hx hb d_G_isUnsuited_2 (by decide) (fun c2 => ?_) (fun c2 => ?_)
  · have c2 := c2
    refine lv_iconst (v := 0) hx hb d_G_isUnsuited_21 (by decide) ?_
    exact gp_rz hx hb hr hlocks (rfl) (rfl) d_G_isUnsuited_22
  · exact absurd c2 (by decide)
set_option maxHeartbeats 4000000 in
set_option maxRecDepth 100000 in
theorem c_G_isUnsuitedP (l : Launch) (E : gp_E) (I : Nat → Int32) (F : Nat → Nat → Int32) (np nt ns p t : Nat) (hp4 : I 4 = nI np) (hT : I 6 = nI nt) (hN : I 5 = nI ns) (hnp : np ≤ 4) (hnt : nt ≤ 6) (hns : ns ≤ 20) (ht : t < nt) (hp : p < np) : gp_CR l y_G_isUnsuited b_G_isUnsuited 3 (some .boolean) 3 E (gp_wG E I F) [.ref (E.2.2.2 0), .int (nI t), .int (nI p)] (if gp_suit F ns p t then 0 else 1) := by
  refine gp_ofR (by decide) (Nat.le_of_ble_eq_true rfl) ?_
  intro xp xe xs xm below meth xc ls hx hb hr hts hown hlocks hml hP hK hl
  have hown : xs.vm.findClass "GuidePlans" = some xm.cls := hown
  have hl : lv_has ls 3 [(0, .ref (E.2.2.2 0)), (1, .int (nI t)), (2, .int (nI p))] := hl
  refine lv_iload_n hx hb d_G_isUnsuited_0 rfl (lv_at hl 2 rfl) ?_
  refine lv_iconst (v := (-1)) hx hb d_G_isUnsuited_1 (by decide) ?_
  refine lv_icmp_eq (tgt := 21) hx hb d_G_isUnsuited_2 (by decide) (fun c2 => ?_) (fun c2 => ?_)
  · have c2 := c2
    exact False.elim (gp_nn (by omega) c2)
  · have c2 := c2
    refine lv_aload_n hx hb d_G_isUnsuited_5 rfl (lv_at hl 0 rfl) ?_
    refine va_get (D := E.1) (cl := gp_cl) (ci := 0) (v := .ref (E.2.2.2 1)) (C := R_G) (T := T_G) (N := 8) hx hb hts i_G hown hK hP 0 rfl rfl 0 (by decide) (hts _ w1_117) (fun _ h9 => h9) rfl d_G_isUnsuited_6 ?_
    refine lv_iload_n hx hb d_G_isUnsuited_9 rfl (lv_at hl 2 rfl) ?_
    refine lv_iload_n hx hb d_G_isUnsuited_10 rfl (lv_at hl 1 rfl) ?_
    refine gp_cR (q0 := 1) (ci := 1) (As := [.int (nI p), .int (nI t)]) (rest := []) ⟨hx, hb, hml, hown, hts⟩ (c_D_suits l E I F np nt ns p t hp4 hT hN hnp hnt hns hp ht) (k_G_196 hts ⟨by decide, by decide⟩ rfl rfl) hK hP rfl rfl rfl hl.1 rfl (Nat.le_of_ble_eq_true rfl) d_G_isUnsuited_11 ⟨Nat.le_of_ble_eq_true rfl, Nat.le_of_ble_eq_true rfl⟩ ?_
    by_cases hs11 : gp_suit F ns p t = true
    · rw [show ((if gp_suit F ns p t then 1 else 0) : Int32) = 1 from if_pos hs11]
      refine lv_if_ne (tgt := 21) hx hb d_G_isUnsuited_14 (by decide) (fun c14 => ?_) (fun c14 => ?_)
      · have c14 := c14
        have nc14 : ¬ 1 = 0 := fun h => c14 ((nI_eq (a := 1) (b := 0) (by omega) (by omega)).mpr h)
        refine lv_iconst (v := 0) hx hb d_G_isUnsuited_21 (by decide) ?_
        exact gp_rz hx hb hr hlocks (rfl) (by simp [c2, hs11, c14, nc14]) d_G_isUnsuited_22
      · exact absurd c14 (by decide)
    · rw [show ((if gp_suit F ns p t then 1 else 0) : Int32) = 0 from if_neg hs11]
      refine lv_if_ne (tgt := 21) hx hb d_G_isUnsuited_14 (by decide) (fun c14 => ?_) (fun c14 => ?_)
      · exact absurd c14 (by decide)
      · have c14 := c14
        have nc14 : 0 = 0 := (nI_eq (a := 0) (b := 0) (by omega) (by omega)).mp c14
        refine lv_iconst (v := 1) hx hb d_G_isUnsuited_17 (by decide) ?_
        refine lv_goto (tgt := 22) hx hb d_G_isUnsuited_18 (by decide) ?_
        exact gp_rz hx hb hr hlocks (rfl) (by simp [c2, hs11, c14, nc14]) d_G_isUnsuited_22
theorem c_G_isUnsuited (l : Launch) (E : gp_E) (I : Nat → Int32) (F : Nat → Nat → Int32) (np nt ns t : Nat) (x : Int32) (hp4 : I 4 = nI np) (hT : I 6 = nI nt) (hN : I 5 = nI ns) (hnp : np ≤ 4) (hnt : nt ≤ 6) (hns : ns ≤ 20) (ht : t < nt) (hx : x = -1 ∨ ∃ p, p < np ∧ x = nI p) : gp_CR l y_G_isUnsuited b_G_isUnsuited 3 (some .boolean) 3 E (gp_wG E I F) [.ref (E.2.2.2 0), .int (nI t), .int x] (if gp_uns F ns x t then 1 else 0) := by
  rcases hx with rfl | ⟨p, hp, rfl⟩
  · exact c_G_isUnsuitedN l E I F t
  · have h := c_G_isUnsuitedP l E I F np nt ns p t hp4 hT hN hnp hnt hns ht hp
    rw [show (if gp_uns F ns (nI p) t then (1 : Int32) else 0) = (if gp_suit F ns p t then 0 else 1) from by
      have e1 : ¬ nI p = -1 := fun e => gp_nn (by omega) e
      simp only [gp_uns, e1, nI_clamp (show p < 2 ^ 31 by omega)]
      cases gp_suit F ns p t <;> rfl]
    exact h
end
section
set_option maxHeartbeats 4000000 in
set_option maxRecDepth 100000 in
theorem c_G_adoptFoundPlan (l : Launch) (E : gp_E) (I : Nat → Int32) (F : Nat → Nat → Int32) (nt : Nat) (hT : I 6 = nI nt) (hnt : nt ≤ 6) : gp_CW l y_G_adoptFoundPlan b_G_adoptFoundPlan 2 none 1 E (gp_wG E I F) (gp_wG E (upd (upd I 3 1) 2 (-1)) (gp_uF F 14 (fun j => if j < nt then F 8 j else F 14 j))) [.ref (E.2.2.2 0)] none := by
  refine gp_ofW (by decide) (Nat.le_of_ble_eq_true rfl) ?_
  intro xp xe xs xm below meth xc ls A hx hb hr hts hown hlocks hml hP hK hD hA hAe hl
  have hS : va_S A xs.heap xs.heap [] := va_S.rf
  have hown : xs.vm.findClass "GuidePlans" = some xm.cls := hown
  have hl : lv_has ls 2 [(0, .ref (E.2.2.2 0))] := hl
  refine lv_iconst (v := 0) hx hb d_G_adoptFoundPlan_0 (by decide) ?_
  refine lv_istore_n (lv' := [(1, .int 0), (0, .ref (E.2.2.2 0))]) hx hb d_G_adoptFoundPlan_1 rfl hl (by decide) rfl (fun ls hl => ?_)
  have L2 : ∀ (n : Nat) (t : Nat), t ≤ nt → nt + 1 ≤ t + n → ∀ (ls : Array Slot) (H : Heap) (locs : List Loc), lv_has ls 2 [(1, .int (nI t)), (0, .ref (E.2.2.2 0))] → va_P E.1 gp_cl (gp_wG E I (gp_uF F 14 (fun j => if j < t then F 8 j else F 14 j))) H → va_D A (gp_wG E I (gp_uF F 14 (fun j => if j < t then F 8 j else F 14 j))) → va_S A xs.heap H locs → W xp l xe (gp_rm 1 0 0) xs xm ([.ref (E.2.2.2 0)] : List Value).toArray below meth xc H locs 0 0 (MQ below (gp_QW E none (gp_wG E I F) (gp_wG E (upd (upd I 3 1) 2 (-1)) (gp_uF F 14 (fun j => if j < nt then F 8 j else F 14 j))) xs.heap.size) ([.ref (E.2.2.2 0)] : List Value).toArray xs 0 0 A) (F0 xm 2 ls []) := by
    intro n
    induction n with
    | zero =>
      intro t h1 hm
      exact absurd hm (by omega)
    | succ n ih2 =>
      intro t h1 hm ls H locs hl hP hD hS
      refine lv_iload_n hx hb d_G_adoptFoundPlan_2 rfl (lv_at hl 0 rfl) ?_
      refine lv_aload_n hx hb d_G_adoptFoundPlan_3 rfl (lv_at hl 1 rfl) ?_
      refine va_get (D := E.1) (cl := gp_cl) (ci := 0) (v := .ref (E.2.2.2 1)) (C := R_G) (T := T_G) (N := 8) hx hb hts i_G hown hK hP 0 rfl rfl 0 (by decide) (hts _ w1_117) (fun _ h9 => h9) rfl d_G_adoptFoundPlan_4 ?_
      refine va_get (D := E.1) (cl := gp_cl) (ci := 1) (v := .int (nI nt)) (C := R_D) (T := T_D) (N := 13) hx hb hts i_D hown hK hP 1 rfl rfl 10 (by decide) (hts _ w1_46) (fun _ h9 => h9) (congrArg (fun z => some (Value.int z)) hT) d_G_adoptFoundPlan_7 ?_
      refine lv_icmp_ge (tgt := 34) hx hb d_G_adoptFoundPlan_10 (by decide) (fun c10 => ?_) (fun c10 => ?_)
      · have c10 := c10
        have nc10 : nt ≤ t := (nI_leI (a := nt) (b := t) (by omega) (by omega)).mp c10
        have hte : nt = t := by omega
        subst hte
        refine lv_aload_n hx hb d_G_adoptFoundPlan_34 rfl (lv_at hl 1 rfl) ?_
        refine lv_iconst (v := 1) hx hb d_G_adoptFoundPlan_35 (by decide) ?_
        refine va_put (D := E.1) (cl := gp_cl) (ci := 0) (v := .int 1) (ty := .boolean) (C := R_G) (T := T_G) (N := 8) hx hb hts i_G t_G t_G_ok n_G hown hK hP hD hS 0 rfl rfl 7 (by decide) (hts _ w1_124) (fun _ h9 => h9) rfl (by decide +kernel) rfl rfl (Nat.le_of_ble_eq_true rfl) d_G_adoptFoundPlan_36 (fun H locs hP hD hS => ?_)
        have hP : va_P E.1 gp_cl (gp_wG E (upd I 3 1) (gp_uF F 14 (fun j => if j < nt then F 8 j else F 14 j))) H := hP
        have hD : va_D A (gp_wG E (upd I 3 1) (gp_uF F 14 (fun j => if j < nt then F 8 j else F 14 j))) := hD
        refine lv_aload_n hx hb d_G_adoptFoundPlan_39 rfl (lv_at hl 1 rfl) ?_
        refine lv_iconst (v := (-1)) hx hb d_G_adoptFoundPlan_40 (by decide) ?_
        refine va_put (D := E.1) (cl := gp_cl) (ci := 0) (v := .int (-1)) (ty := .int) (C := R_G) (T := T_G) (N := 8) hx hb hts i_G t_G t_G_ok n_G hown hK hP hD hS 0 rfl rfl 6 (by decide) (hts _ w1_123) (fun _ h9 => h9) rfl (by decide +kernel) rfl rfl (Nat.le_of_ble_eq_true rfl) d_G_adoptFoundPlan_41 (fun H locs hP hD hS => ?_)
        have hP : va_P E.1 gp_cl (gp_wG E (upd (upd I 3 1) 2 (-1)) (gp_uF F 14 (fun j => if j < nt then F 8 j else F 14 j))) H := hP
        have hD : va_D A (gp_wG E (upd (upd I 3 1) 2 (-1)) (gp_uF F 14 (fun j => if j < nt then F 8 j else F 14 j))) := hD
        exact gp_wv hx hb hr hlocks hAe rfl (hP) hS d_G_adoptFoundPlan_44
      · have c10 := c10
        have nc10 : ¬ nt ≤ t := fun h => c10 ((nI_leI (a := nt) (b := t) (by omega) (by omega)).mpr h)
        refine lv_aload_n hx hb d_G_adoptFoundPlan_13 rfl (lv_at hl 1 rfl) ?_
        refine va_get (D := E.1) (cl := gp_cl) (ci := 0) (v := .ref (E.2.2.2 17)) (C := R_G) (T := T_G) (N := 8) hx hb hts i_G hown hK hP 0 rfl rfl 2 (by decide) (hts _ w1_119) (fun _ h9 => h9) rfl d_G_adoptFoundPlan_14 ?_
        refine lv_iload_n hx hb d_G_adoptFoundPlan_17 rfl (lv_at hl 0 rfl) ?_
        refine lv_aload_n hx hb d_G_adoptFoundPlan_18 rfl (lv_at hl 1 rfl) ?_
        refine va_get (D := E.1) (cl := gp_cl) (ci := 0) (v := .ref (E.2.2.2 2)) (C := R_G) (T := T_G) (N := 8) hx hb hts i_G hown hK hP 0 rfl rfl 1 (by decide) (hts _ w1_118) (fun _ h9 => h9) rfl d_G_adoptFoundPlan_19 ?_
        refine va_get (D := E.1) (cl := gp_cl) (ci := 2) (v := .ref (E.2.2.2 11)) (C := R_S) (T := T_S) (N := 9) hx hb hts i_S hown hK hP 2 rfl rfl 0 (by decide) (hts _ w1_89) (fun _ h9 => h9) rfl d_G_adoptFoundPlan_22 ?_
        refine lv_iload_n hx hb d_G_adoptFoundPlan_25 rfl (lv_at hl 0 rfl) ?_
        refine gp_ald (f := (F 8)) (n := 6) hx hb hK hP 11 rfl (t) rfl (by omega) (by decide) d_G_adoptFoundPlan_26 ?_
        refine gp_ast (f := (fun j => if j < t then F 8 j else F 14 j)) (n := 6) hx hb hK hP hD hS 17 rfl (t) rfl (by omega) (by decide) d_G_adoptFoundPlan_27 (fun H locs hP hD hS => ?_)
        have hP : va_P E.1 gp_cl (gp_wG E I (gp_uF (gp_uF F 14 (fun j => if j < t then F 8 j else F 14 j)) 14 (upd (fun j => if j < t then F 8 j else F 14 j) (t) ((F 8) (t))))) H := hP
        have hD : va_D A (gp_wG E I (gp_uF (gp_uF F 14 (fun j => if j < t then F 8 j else F 14 j)) 14 (upd (fun j => if j < t then F 8 j else F 14 j) (t) ((F 8) (t))))) := hD
        refine lv_iinc (v := (nI (t + 1))) (lv' := [(1, .int (nI (t + 1))), (0, .ref (E.2.2.2 0))]) hx hb d_G_adoptFoundPlan_28 hl (k := 0) rfl (nI_1 _) (by decide) rfl (fun ls hl => ?_)
        refine lv_goto (tgt := 2) hx hb d_G_adoptFoundPlan_31 (by decide) ?_
        exact ih2 (t + 1) (by omega) (by omega) ls _ _ (lv_sub hl [0, 1] rfl) (by rw [← gp_up1 (h := F 8) (k := F 14) rfl]; exact hP) (gp_dd hD rfl) hS
  exact L2 (nt + 1) 0 (Nat.zero_le _) (by omega) ls _ _ (lv_sub hl [0, 1] rfl) (by rw [gp_cp0 (g := F 8)]; exact hP) (gp_dd hD rfl) hS
set_option maxHeartbeats 4000000 in
set_option maxRecDepth 100000 in
theorem c_G_noteChanges (l : Launch) (E : gp_E) (I : Nat → Int32) (F : Nat → Nat → Int32) (nt : Nat) (hT : I 6 = nI nt) (hnt : nt ≤ 6) : gp_CW l y_G_noteChanges b_G_noteChanges 2 none 1 E (gp_wG E I F) (gp_wG E (upd I 0 (nI (gp_nc F nt).1)) (gp_uF F 15 (gp_nc F nt).2)) [.ref (E.2.2.2 0)] none := by
  refine gp_ofW (by decide) (Nat.le_of_ble_eq_true rfl) ?_
  intro xp xe xs xm below meth xc ls A hx hb hr hts hown hlocks hml hP hK hD hA hAe hl
  have hS : va_S A xs.heap xs.heap [] := va_S.rf
  have hown : xs.vm.findClass "GuidePlans" = some xm.cls := hown
  have hl : lv_has ls 2 [(0, .ref (E.2.2.2 0))] := hl
  refine lv_aload_n hx hb d_G_noteChanges_0 rfl (lv_at hl 0 rfl) ?_
  refine lv_iconst (v := 0) hx hb d_G_noteChanges_1 (by decide) ?_
  refine va_put (D := E.1) (cl := gp_cl) (ci := 0) (v := .int 0) (ty := .int) (C := R_G) (T := T_G) (N := 8) hx hb hts i_G t_G t_G_ok n_G hown hK hP hD hS 0 rfl rfl 4 (by decide) (hts _ w1_121) (fun _ h9 => h9) rfl (by decide +kernel) rfl rfl (Nat.le_of_ble_eq_true rfl) d_G_noteChanges_2 (fun H locs hP hD hS => ?_)
  have hP : va_P E.1 gp_cl (gp_wG E (upd I 0 0) F) H := hP
  have hD : va_D A (gp_wG E (upd I 0 0) F) := hD
  refine lv_iconst (v := 0) hx hb d_G_noteChanges_5 (by decide) ?_
  refine lv_istore_n (lv' := [(1, .int 0), (0, .ref (E.2.2.2 0))]) hx hb d_G_noteChanges_6 rfl hl (by decide) rfl (fun ls hl => ?_)
  have L7 : ∀ (n : Nat) (t : Nat), t ≤ nt → nt + 1 ≤ t + n → ∀ (ls : Array Slot) (H : Heap) (locs : List Loc), lv_has ls 2 [(1, .int (nI t)), (0, .ref (E.2.2.2 0))] → va_P E.1 gp_cl (gp_wG E (upd I 0 (nI (gp_nc F t).1)) (gp_uF F 15 (gp_nc F t).2)) H → va_D A (gp_wG E (upd I 0 (nI (gp_nc F t).1)) (gp_uF F 15 (gp_nc F t).2)) → va_S A xs.heap H locs → W xp l xe (gp_rm 1 0 0) xs xm ([.ref (E.2.2.2 0)] : List Value).toArray below meth xc H locs 0 0 (MQ below (gp_QW E none (gp_wG E I F) (gp_wG E (upd I 0 (nI (gp_nc F nt).1)) (gp_uF F 15 (gp_nc F nt).2)) xs.heap.size) ([.ref (E.2.2.2 0)] : List Value).toArray xs 0 0 A) (F0 xm 7 ls []) := by
    intro n
    induction n with
    | zero =>
      intro t h1 hm
      exact absurd hm (by omega)
    | succ n ih7 =>
      intro t h1 hm ls H locs hl hP hD hS
      have hle := gp_nc_le (F := F) t
      refine lv_iload_n hx hb d_G_noteChanges_7 rfl (lv_at hl 0 rfl) ?_
      refine lv_aload_n hx hb d_G_noteChanges_8 rfl (lv_at hl 1 rfl) ?_
      refine va_get (D := E.1) (cl := gp_cl) (ci := 0) (v := .ref (E.2.2.2 1)) (C := R_G) (T := T_G) (N := 8) hx hb hts i_G hown hK hP 0 rfl rfl 0 (by decide) (hts _ w1_117) (fun _ h9 => h9) rfl d_G_noteChanges_9 ?_
      refine va_get (D := E.1) (cl := gp_cl) (ci := 1) (v := .int (nI nt)) (C := R_D) (T := T_D) (N := 13) hx hb hts i_D hown hK hP 1 rfl rfl 10 (by decide) (hts _ w1_46) (fun _ h9 => h9) (congrArg (fun z => some (Value.int z)) hT) d_G_noteChanges_12 ?_
      refine lv_icmp_ge (tgt := 62) hx hb d_G_noteChanges_15 (by decide) (fun c15 => ?_) (fun c15 => ?_)
      · have c15 := c15
        have nc15 : nt ≤ t := (nI_leI (a := nt) (b := t) (by omega) (by omega)).mp c15
        have hte : nt = t := by omega
        subst hte
        exact gp_wv hx hb hr hlocks hAe rfl (hP) hS d_G_noteChanges_62
      · have c15 := c15
        have nc15 : ¬ nt ≤ t := fun h => c15 ((nI_leI (a := nt) (b := t) (by omega) (by omega)).mpr h)
        refine lv_aload_n hx hb d_G_noteChanges_18 rfl (lv_at hl 1 rfl) ?_
        refine va_get (D := E.1) (cl := gp_cl) (ci := 0) (v := .ref (E.2.2.2 17)) (C := R_G) (T := T_G) (N := 8) hx hb hts i_G hown hK hP 0 rfl rfl 2 (by decide) (hts _ w1_119) (fun _ h9 => h9) rfl d_G_noteChanges_19 ?_
        refine lv_iload_n hx hb d_G_noteChanges_22 rfl (lv_at hl 0 rfl) ?_
        refine gp_ald (f := (F 14)) (n := 6) hx hb hK hP 17 rfl (t) rfl (by omega) (by decide) d_G_noteChanges_23 ?_
        refine lv_aload_n hx hb d_G_noteChanges_24 rfl (lv_at hl 1 rfl) ?_
        refine va_get (D := E.1) (cl := gp_cl) (ci := 0) (v := .ref (E.2.2.2 2)) (C := R_G) (T := T_G) (N := 8) hx hb hts i_G hown hK hP 0 rfl rfl 1 (by decide) (hts _ w1_118) (fun _ h9 => h9) rfl d_G_noteChanges_25 ?_
        refine va_get (D := E.1) (cl := gp_cl) (ci := 2) (v := .ref (E.2.2.2 11)) (C := R_S) (T := T_S) (N := 9) hx hb hts i_S hown hK hP 2 rfl rfl 0 (by decide) (hts _ w1_89) (fun _ h9 => h9) rfl d_G_noteChanges_28 ?_
        refine lv_iload_n hx hb d_G_noteChanges_31 rfl (lv_at hl 0 rfl) ?_
        refine gp_ald (f := (F 8)) (n := 6) hx hb hK hP 11 rfl (t) rfl (by omega) (by decide) d_G_noteChanges_32 ?_
        refine lv_icmp_eq (tgt := 56) hx hb d_G_noteChanges_33 (by decide) (fun c33 => ?_) (fun c33 => ?_)
        · have c33 := c33
          refine lv_iinc (v := (nI (t + 1))) (lv' := [(1, .int (nI (t + 1))), (0, .ref (E.2.2.2 0))]) hx hb d_G_noteChanges_56 hl (k := 0) rfl (nI_1 _) (by decide) rfl (fun ls hl => ?_)
          refine lv_goto (tgt := 7) hx hb d_G_noteChanges_59 (by decide) ?_
          exact ih7 (t + 1) (by omega) (by omega) ls _ _ (lv_sub hl [0, 1] rfl) (by first | (rw [show gp_nc F (t + 1) = gp_nc F t from by rw [gp_nc]; exact if_pos c33]; exact hP) | (rw [show gp_nc F (t + 1) = ((gp_nc F t).1 + 1, upd (gp_nc F t).2 (gp_nc F t).1 (nI t)) from by rw [gp_nc]; exact if_neg c33]; exact hP)) (gp_dd hD rfl) hS
        · have c33 := c33
          refine lv_aload_n hx hb d_G_noteChanges_36 rfl (lv_at hl 1 rfl) ?_
          refine va_get (D := E.1) (cl := gp_cl) (ci := 0) (v := .ref (E.2.2.2 18)) (C := R_G) (T := T_G) (N := 8) hx hb hts i_G hown hK hP 0 rfl rfl 3 (by decide) (hts _ w1_120) (fun _ h9 => h9) rfl d_G_noteChanges_37 ?_
          refine lv_aload_n hx hb d_G_noteChanges_40 rfl (lv_at hl 1 rfl) ?_
          refine va_get (D := E.1) (cl := gp_cl) (ci := 0) (v := .int (nI (gp_nc F t).1)) (C := R_G) (T := T_G) (N := 8) hx hb hts i_G hown hK hP 0 rfl rfl 4 (by decide) (hts _ w1_121) (fun _ h9 => h9) rfl d_G_noteChanges_41 ?_
          refine lv_iload_n hx hb d_G_noteChanges_44 rfl (lv_at hl 0 rfl) ?_
          refine gp_ast (f := (gp_nc F t).2) (n := 6) hx hb hK hP hD hS 18 rfl ((gp_nc F t).1) rfl (by omega) (by decide) d_G_noteChanges_45 (fun H locs hP hD hS => ?_)
          have hP : va_P E.1 gp_cl (gp_wG E (upd I 0 (nI (gp_nc F t).1)) (gp_uF (gp_uF F 15 (gp_nc F t).2) 15 (upd (gp_nc F t).2 ((gp_nc F t).1) (nI t)))) H := hP
          have hD : va_D A (gp_wG E (upd I 0 (nI (gp_nc F t).1)) (gp_uF (gp_uF F 15 (gp_nc F t).2) 15 (upd (gp_nc F t).2 ((gp_nc F t).1) (nI t)))) := hD
          refine lv_aload_n hx hb d_G_noteChanges_46 rfl (lv_at hl 1 rfl) ?_
          refine lv_dup hx hb d_G_noteChanges_47 rfl ?_
          refine va_get (D := E.1) (cl := gp_cl) (ci := 0) (v := .int (nI (gp_nc F t).1)) (C := R_G) (T := T_G) (N := 8) hx hb hts i_G hown hK hP 0 rfl rfl 4 (by decide) (hts _ w1_121) (fun _ h9 => h9) rfl d_G_noteChanges_48 ?_
          refine lv_iconst (v := 1) hx hb d_G_noteChanges_51 (by decide) ?_
          refine lv_iadd hx hb d_G_noteChanges_52 ?_
          rw [show ((nI (gp_nc F t).1) + 1) = (nI ((gp_nc F t).1 + 1)) from nI_1 _]
          refine va_put (D := E.1) (cl := gp_cl) (ci := 0) (v := .int (nI ((gp_nc F t).1 + 1))) (ty := .int) (C := R_G) (T := T_G) (N := 8) hx hb hts i_G t_G t_G_ok n_G hown hK hP hD hS 0 rfl rfl 4 (by decide) (hts _ w1_121) (fun _ h9 => h9) rfl (by decide +kernel) rfl rfl (Nat.le_of_ble_eq_true rfl) d_G_noteChanges_53 (fun H locs hP hD hS => ?_)
          have hP : va_P E.1 gp_cl (gp_wG E (upd (upd I 0 (nI (gp_nc F t).1)) 0 (nI ((gp_nc F t).1 + 1))) (gp_uF (gp_uF F 15 (gp_nc F t).2) 15 (upd (gp_nc F t).2 ((gp_nc F t).1) (nI t)))) H := hP
          have hD : va_D A (gp_wG E (upd (upd I 0 (nI (gp_nc F t).1)) 0 (nI ((gp_nc F t).1 + 1))) (gp_uF (gp_uF F 15 (gp_nc F t).2) 15 (upd (gp_nc F t).2 ((gp_nc F t).1) (nI t)))) := hD
          refine lv_iinc (v := (nI (t + 1))) (lv' := [(1, .int (nI (t + 1))), (0, .ref (E.2.2.2 0))]) hx hb d_G_noteChanges_56 hl (k := 0) rfl (nI_1 _) (by decide) rfl (fun ls hl => ?_)
          refine lv_goto (tgt := 7) hx hb d_G_noteChanges_59 (by decide) ?_
          exact ih7 (t + 1) (by omega) (by omega) ls _ _ (lv_sub hl [0, 1] rfl) (by first | (rw [show gp_nc F (t + 1) = gp_nc F t from by rw [gp_nc]; exact if_pos c33]; exact hP) | (rw [show gp_nc F (t + 1) = ((gp_nc F t).1 + 1, upd (gp_nc F t).2 (gp_nc F t).1 (nI t)) from by rw [gp_nc]; exact if_neg c33]; exact hP)) (gp_dd hD rfl) hS
  exact L7 (nt + 1) 0 (Nat.zero_le _) (by omega) ls _ _ (lv_sub hl [0, 1] rfl) (by rw [show (gp_nc F 0).2 = F 15 from rfl, gp_uF_self]; exact hP) (gp_dd hD rfl) hS
end
section
/-! ===== methods that throw (a launch without stack traces): rows of ours over the library's own laws of throwing ===== -/
def gx_at (ic : Nat) (X : String) : List Cond := Bundle.ownAtoms "GuidePlans" ic X ["java/lang/RuntimeException", "java/lang/Exception"]
def gx_ws : List Cond := gx_at 48 "java/lang/IllegalArgumentException" ++ (gx_at 58 "java/lang/IllegalStateException" ++ gx_at 85 "java/util/NoSuchElementException")
def gx_tx : List (Nat × String) := [(46, "skills are not 0 .. 255"), (56, "there are four persons"), (171, "no such person"), (178, "not 0 <= from < to <= 96"), (184, "there are 20 spans off"), (83, "no such skill"), (89, "there are six tasks"), (180, "quarters are not 0 .. 96"), (176, "no such task"), (182, "nothing was planned"), (135, "no such change"), (165, "nothing to count by this number")]
/-- what a throw needs of the start: the words on Throwable and its kin, the texts -/
def gx_St (U : State) : Prop := (∀ w ∈ gx_ws, w.before #[] U = true) ∧ ∀ q ∈ gx_tx, (Cond.stringRef "GuidePlans" q.1 q.2).before #[] U = true
def gx_stat : Cond → Bool
  | .isRef (.static _ _ _) => true
  | .laysStatic _ _ _ => true
  | _ => false
theorem gx_eqv {w : Cond} (hw : (w.onTables || gx_stat w) = true) {U V : State} (hh : U.heap = V.heap) (hv : U.vm = V.vm) (a b : Array Value) : w.before a U = w.before b V := by
  cases h : w.onTables with
  | true =>
    have h1 := Cond.onTables_vm (A := a) (A' := b) (U := U) (U' := V) V.vm w h
    rw [State.setVm_self] at h1
    rw [← h1, ← hv, State.setVm_self]
  | false =>
    rw [h] at hw
    simp only [Bool.false_or] at hw
    cases w with
    | isRef t =>
      cases t with
      | static C n d => cases U; cases V; cases hh; cases hv; rfl
      | _ => simp [gx_stat] at hw
    | laysStatic C n d => cases U; cases V; cases hh; cases hv; rfl
    | _ => simp [gx_stat] at hw
theorem gx_str {i : Nat} {tx : String} {U V : State} (hv : U.vm = V.vm) (a b : Array Value) : (Cond.stringRef "GuidePlans" i tx).before a U = (Cond.stringRef "GuidePlans" i tx).before b V := by
  cases U; cases V; cases hv; rfl
theorem gx_ws_ok : ∀ w ∈ gx_ws, ((w.onTables || gx_stat w) && w.keepsFace) = true := by decide +kernel
theorem gx_St.mv {s U : State} (h : gx_St s) (hW : s.WarmedH U.vm) (hh : U.heap = s.heap) : gx_St U := by
  refine ⟨fun w hw => ?_, fun q hq => ?_⟩
  · have h1 := gx_ws_ok w hw
    simp only [Bool.and_eq_true] at h1
    have h2 := Cond.before_shiftedFace (State.Shifted.of_warmed hW) w h1.2 (h.1 w hw)
    rw [← h2]
    exact gx_eqv (V := s.setVm U.vm) h1.1 hh rfl #[] #[]
  · have h2 := Cond.stringRef_warmed (args := #[]) hW (h.2 q hq)
    rw [← h2]
    exact gx_str (V := s.setVm U.vm) rfl #[] #[]
def gx_QT (X : String) : Array Value → State → Outcome → State → Prop := fun _ st o t => ∃ (q : Addr) (ce : Cell), o = .threw q ∧ t.heap[q]? = some ce ∧ ce.vm = .none ∧ st.vm.findClass X = some ce.cls ∧ st.heap.size ≤ t.heap.size ∧ (∀ i : Nat, i < st.heap.size → t.heap[i]? = st.heap[i]?) ∧ st.WarmedH t.vm ∧ st.sameButNew ({ t with vm := st.vm } : State) [] 1 6
def gx_MQ (below : List Frame) (X : String) (a : Array Value) (s : State) : State → Prop := fun t => ∃ o, t.status = .running ∧ Ended t below o ∧ gx_QT X a s o t
/-- a method that throws an X, and writes nothing -/
def gx_CT (l : Launch) (y : MethodName) (cc : ByteArray) (maxL : Nat) (ret : Option FieldType) (k : Nat) (E : gp_E) (w : va_W) (av : List Value) (X : String) : Prop :=
  MetFree l y (headSpec (.code y cc maxL ret :: gw) (gp_rm k 1 6)) (va_Pc av (fun U => gp_p0 E w U ∧ gx_St U)) (fun _ _ _ _ _ => True) (gx_QT X)
theorem gx_kept {s t : State} {k n : Nat} (h : s.sameButNew t [] k n) : ∀ i : Nat, i < s.heap.size → t.heap[i]? = s.heap[i]? := by
  obtain ⟨-, -, -, -, -, q⟩ := h
  intro i hi
  have hc0 : s.heap[i]? = some s.heap[i] := Array.getElem?_eq_getElem hi
  obtain ⟨c', h1, h2, -, h4⟩ := q i _ hc0
  rw [h1, hc0]
  have h5 : c'.slots = (s.heap[i]).slots := Array.ext_getElem? (fun j => h4 j (by simp))
  rw [h2, h5]
section GxB
variable {l : Launch} {y : MethodName} {cc : ByteArray} {maxL : Nat} {ret : Option FieldType} {k : Nat} {E : gp_E} {w : va_W} {av : List Value} {X : String}
theorem gx_ofT (hy : plainName y.cls = true) (hlen : (lg_sl av).length ≤ maxL)
    (body : ∀ (p : Program) (e : Env) (s : State) (m : MethodId) (below : List Frame) (meth : Method) (c : Code) (ls : Array Slot), p.tables.exec = Jvm.exec → c.code = cc → meth.sig.returnType = ret → (∀ x ∈ gw, x.before av.toArray s = true) → s.vm.findClass y.cls = some m.cls → meth.locks = false → c.maxLocals = maxL → (∀ x ∈ c.exceptionTable.toList, False) →
      va_P E.1 gp_cl w s.heap → va_K E.1 gp_cl (gp_ty E) s → gx_St s → lv_has ls maxL (lv_args 0 av) →
      W p l e (gp_rm k 1 6) s m av.toArray below meth c s.heap [] 0 0 (gx_MQ below X av.toArray s) (F0 m 0 ls [])) : gx_CT l y cc maxL ret k E w av X := by
  refine MetFree.of_bodyS (code := cc) (maxLocals := maxL) (ret := ret) hy ?_ ?_
  · intro args s m h hn
    obtain ⟨meth, c, h1, h2, h3, h4, h5, h6, -, -⟩ := Cond.code_spec hn (atoms_spec (ws := .code y cc maxL ret :: gw) h _ List.mem_cons_self)
    exact ⟨meth, c, h1, h2, h3, h4, h5, h6⟩
  · intro p e s m args below meth c s₁ B hml hv _
    obtain ⟨rfl, ⟨hP, hK⟩, hSt⟩ := hv
    have hts := atoms_spec (ws := .code y cc maxL ret :: gw) B.pre
    have hh0 : s₁.heap = s.heap := by rw [B.state]; rfl
    have hem : ∀ x ∈ c.exceptionTable.toList, False := by
      have h9 := BodyLoose.noHandlers B (hts _ List.mem_cons_self)
      intro x hx
      rw [Array.isEmpty_iff.mp h9] at hx
      cases hx
    have hl := lv_entry av (n := maxL) hlen
    have hb := fun (ls : Array Slot) (hl : lv_has ls maxL (lv_args 0 av)) => body p e s m below meth c ls B.exec B.bytes B.returns (fun x h => hts x (List.mem_cons_of_mem _ h)) (findClass_of_methodNamed B.named) B.notSynchronized hml hem hP hK hSt hl
    have h := hb _ hl
    rw [← lg_entry_eq] at h
    obtain ⟨t, a1, o, b1, b2, b3⟩ := h s₁ hh0 (Stand.of_body B)
    exact ⟨t, o, a1, b1, b2, b3⟩
end GxB
section GxC
variable {p : Program} {l : Launch} {e : Env} {R : Room} {s : State} {m : MethodId} {args : Array Value} {below : List Frame} {meth : Method} {c : Code}
variable {y : MethodName} {bytes cc : ByteArray} {maxL nL n index k : Nat} {ret : Option FieldType} {own : String} {b : Addr} {As rest st0 : List Value} {pc : Nat} {ls : Array Slot}
variable {E : gp_E} {w : va_W} {X : String}
/-- throw new X("..") -/
theorem gx_thr (hexec : p.tables.exec = Jvm.exec) (hb : c.code = cc) (hl : l.stackTraces = false) {ik is ic : Nat} {tx : String} (hown : s.vm.findClass "GuidePlans" = some m.cls) (hX : Bundle.fit X = true)
    (hk : (Cond.classLink "GuidePlans" ik X).before args s = true) (hini : (Cond.initialized X).before args s = true) (hSt : gx_St s) (hat : ∀ w ∈ gx_at ic X, w ∈ gx_ws) (htx : (is, tx) ∈ gx_tx) (hsize : ls.size = c.maxLocals)
    (d0 : decode cc pc = .ok (.new ik, 3)) (d3 : decode cc (pc + 3) = .ok (.dup, 1)) (d4 : decode cc (pc + 4) = .ok (.ldc is, 2)) (d6 : decode cc (pc + 6) = .ok (.invokespecial ic, 3)) (d9 : decode cc (pc + 9) = .ok (.athrow, 1))
    (hem : ∀ x ∈ c.exceptionTable.toList, False) (hRf : 5 < R.frames) (hRl : (rest.map fun v => v.category).sum + 82 ≤ R.locals) (hRc : 1 ≤ R.cells) (hRs : 6 ≤ R.slots) (hlocks : meth.locks = false) :
    W p l e R s m args below meth c s.heap [] 0 0 (gx_MQ below X args s) (F0 m pc ls rest) := by
  intro T hT X0
  have htr : e.platform.stackTraces = false := (show e.platform.stackTraces = l.stackTraces by rw [X0.admits.platform]).trans hl
  have hat2 : ∀ w ∈ gx_at ic X, w.before args s = true := fun w hw => by
    have h1 := gx_ws_ok w (hat w hw)
    simp only [Bool.and_eq_true] at h1
    rw [gx_eqv h1.1 rfl rfl args #[]]
    exact hSt.1 w (hat w hw)
  have hins : (Cond.instantiable X 6).before args s = true := hat2 _ (by simp [gx_at, Bundle.ownAtoms])
  obtain ⟨vm₁, cX, kX, hfX, hkX, -, -, X₁, st1⟩ := X0.newCold hexec (own := "GuidePlans") (C := X) (index := ik) (n := 6) hown hk hins hini (g := F0 m pc ls rest) rfl (by rw [hb]; exact d0) (by omega) (by omega)
  generalize hT1 : (T.setVm vm₁).pushCell { cls := cX, slots := kX.instanceTypes.map defaultValue, vm := .none } = T1 at X₁ st1
  have hcellA : T1.heap[T.heap.size]? = some (freshCell cX kX) := by rw [← hT1]; exact State.heap_pushCell_size _ _
  have hstr : (Cond.stringRef "GuidePlans" is tx).before args s = true := by
    rw [gx_str rfl args #[]]
    exact hSt.2 _ htx
  obtain ⟨-, -, -, sa, -, -, -, -, -, hev⟩ := Cond.stringRef_spec hown hstr
  have hcat : (Value.ref T.heap.size).category = 1 := rfl
  obtain ⟨U, hsteps, hrun, hend, hW, hsame, ce, hce, hO⟩ := X₁.ctorThrowS hexec htr (own := "GuidePlans") (cls := X) (names := ["java/lang/RuntimeException", "java/lang/Exception"]) (ic := ic) hown hX (by decide) hat2 (fun x hx => nomatch hx) hfX hkX hcellA (by rw [hT]; exact Nat.le_refl _) (msg := .ref sa) rfl
    (g := { method := m, pc := pc + 6, locals := ls, stack := .ref sa :: .ref T.heap.size :: .ref T.heap.size :: rest, locked := none }) rfl hsize rfl rfl (rest := rest) rfl
    (by rw [hb]; exact d6) (by rw [hb]; exact d9) (fun x hx => (hem x hx).elim) (by simp only [List.length_cons, List.length_nil]; omega) (by
      have hm : (JFrame.monitorRoom { method := m, pc := pc + 6, locals := ls, stack := .ref sa :: .ref T.heap.size :: .ref T.heap.size :: rest, locked := none }) = 0 := rfl
      simp only [List.map_cons, List.sum_cons, hcat, hm, List.length_cons, List.length_nil]
      omega) hlocks
  have hsz : s.heap.size ≤ U.heap.size := hsame.2.1
  have hkeep : ∀ i : Nat, i < s.heap.size → U.heap[i]? = s.heap[i]? := fun i hi => gx_kept (t := { U with vm := s.vm }) hsame i hi
  refine ⟨U, ?_, .threw T.heap.size, hrun, hend, T.heap.size, ce, rfl, hce, hO.vm, hO.cls, hsz, hkeep, hW, ?_⟩
  · refine st1 _ ?_
    have d3' : decode c.code (pc + 3) = .ok (.dup, 1) := by rw [hb]; exact d3
    have d4' : decode c.code (pc + 4) = .ok (.ldc is, 2) := by rw [hb]; exact d4
    show Steps p.tables e below (T1.setTop { method := m, pc := pc + 3, locals := ls, stack := .ref T.heap.size :: rest, locked := none }) _
    jvm_step X₁.here [X₁.here.top, hexec, d3', Value.category]
    exact X₁.ldcString hexec (own := "GuidePlans") (text := tx) (index := is) (a := sa) hown hstr hev
      (g := { method := m, pc := pc + 4, locals := ls, stack := .ref T.heap.size :: .ref T.heap.size :: rest, locked := none }) rfl d4' _ hsteps
  · exact hsame.mono (by omega) (by omega)
/-- what a call of a method that throws comes to: the callee's exception over this frame -/
theorem gx_go (F : CallFix p m c cc nL s args gw own) (hM : gx_CT l y bytes maxL ret k E w (.ref b :: As) X) {r0 : vw_C} {q0 ci : Nat} {fs : List Value}
    (cw : CallW R s args own r0.1 index y bytes maxL ret (.code y bytes maxL ret :: gw) (gp_rm k 1 6) 1 6 n) (hK : va_K E.1 gp_cl (gp_ty E) s) (hP : va_P E.1 gp_cl w s.heap) (hSt : gx_St s)
    (hc : gp_cl[ci]? = some r0) (he : w[q0]? = some (b, .inr (ci, fs))) (hn : As.length = n) (hsize : ls.size = nL) (hstack : st0 = As.reverse ++ .ref b :: rest) (hW : (rest.map fun v => v.category).sum ≤ 8) (hdg : decode cc pc = .ok (.invokevirtual index, 3)) (hf : 1 ≤ R.cells ∧ 6 ≤ R.slots)
    {T : State} (hT : T.heap = s.heap) (X0 : Stand p l e R s m args below meth c T [] 0 0) :
    ∃ (q : Addr) (ce : Cell) (T' : State), Stand p l e R s m args below meth c T' [] 1 6 ∧ T'.heap[q]? = some ce ∧ ce.vm = .none ∧ s.vm.findClass X = some ce.cls ∧ s.heap.size ≤ T'.heap.size ∧ (∀ i : Nat, i < s.heap.size → T'.heap[i]? = s.heap[i]?) ∧
      ∀ target, Steps p.tables e below ((T'.setTop (F0 m pc ls rest)).pushFrame (.throwing q)) target → Steps p.tables e below (T.setTop (F0 m pc ls st0)) target := by
  obtain ⟨⟨hrc, hrs, hfr, hlo, hws, hcw, hcode, hini, hy, hlen, hl⟩, hin, hse⟩ := cw
  obtain ⟨hexec, hb, hml, hown, -⟩ := F
  obtain ⟨cellB, hcell, hobj, hcls⟩ := va_recv hK hP hc he
  rw [← hT] at hcell
  obtain ⟨mk, methM, hnamed, hmethM, hstM, habM⟩ := Cond.instanceMethod_spec hin
  obtain ⟨methM', cM, hmethM', hcM, -, hlM, -, -, -, hsigM⟩ := Cond.code_spec hnamed hcode
  cases hmethM.symm.trans hmethM'
  obtain ⟨c2, r2, m2, q1, q2, q3, q4, kP, hkP, hkPi⟩ := Cond.selects_spec hse
  cases hcls.symm.trans q1
  cases (State.methodFound?_of_named hnamed hy).symm.trans q2
  cases hnamed.symm.trans q3
  have hselP : selectMethod e.platform s.vm cellB.cls mk = .method mk := by rw [Launch.admits_selectMethod X0.admits]; exact q4
  have hlen2 : As.length = methM.sig.parameters.length := hn.trans (hlen _ hsigM)
  have hdg' : decode c.code pc = .ok (.invokevirtual index, 3) := by rw [hb]; exact hdg
  obtain ⟨vm₁, X₁, hstep₁⟩ := X0.invokevirtual hexec hown hl hnamed hmethM hstM hkP hkPi hy (a := b) (cell := cellB) hcell
    (fun z h => by rw [h] at hobj; cases hobj) hselP hmethM habM hkP hkPi (g := F0 m pc ls st0) rfl (argsL := As) (rest := rest) hlen2 hstack hdg'
  have hsize' : (F0 m pc ls rest).locals.size = c.maxLocals := hsize.trans hml.symm
  have hn1 : (T.setVm vm₁).methodNamed? y = some mk := X₁.named hnamed
  have hpre : ∀ x ∈ (Cond.code y bytes maxL ret :: gw), x.before (Value.ref b :: As).toArray (T.setVm vm₁) = true := fun x hx => hws x hx _ _ X₁.warmed
  obtain ⟨methY, cY, hmY, hcY, -, hlY, -, -, -, -⟩ := Cond.code_spec hn1 (hpre _ List.mem_cons_self)
  obtain ⟨kY, hkY, -⟩ := className_of_methodNamed hn1
  have hinitY : kY.init = .initialized := Cond.initialized_spec (findClass_of_methodNamed hn1) hkY (word_at (U := T.setVm vm₁) (a' := #[]) X₁.warmed (Or.inl (by first | rfl | simp [Cond.onTables, Cond.keeps, Cond.steady])) hini)
  have h : At (T.setVm vm₁) (F0 m pc ls rest).method c below := X₁.here
  have happ : (headSpec (.code y bytes maxL ret :: gw) (gp_rm k 1 6)).appliesLoose y e.platform ((T.setVm vm₁).calling (F0 m pc ls rest) mk (Value.ref b :: As).toArray) = true :=
    Spec.appliesLoose_calling (g := F0 m pc ls rest) h hdg' hn1 hkY hinitY
      (X₁.room_calling (g := F0 m pc ls rest) (R' := gp_rm k 1 6) hsize' hmY hcY hfr (by
        rw [hlY]
        have h9 : 2 * (F0 m pc ls rest).monitorRoom + ((F0 m pc ls rest).stack.map fun v => v.category).sum ≤ 8 := lv_room hW
        omega) (by simpa using hf.1) (by simpa using hf.2)) (atoms_intro hpre)
  obtain ⟨mid, hmid⟩ := h.above
  have hfrm : ((T.setVm vm₁).setTop (F0 m pc ls rest)).frames = (.java (F0 m pc ls rest) :: mid) ++ below := by rw [State.frames_setTop' _ h.top, hmid]; rfl
  have hPc : va_Pc (.ref b :: As) (fun U => gp_p0 E w U ∧ gx_St U) (Value.ref b :: As).toArray ((T.setVm vm₁).calling (F0 m pc ls rest) mk (Value.ref b :: As).toArray) := by
    refine ⟨rfl, ⟨?_, va_K.moved X₁.warmed.alike hK⟩, hSt.mv X₁.warmed hT⟩
    show va_P E.1 gp_cl w T.heap
    rw [hT]; exact hP
  obtain ⟨o, s₂, hsteps, hrun, hend, q, ce, rfl, hce, hcv, hcl, hz, hk, hW2, hsm⟩ := Steps.callFree hM p X₁.admits X₁.cas X₁.clock (acts := []) hfrm happ hPc trivial
  rw [State.frames_setTop' _ h.top, X₁.tail] at hend
  obtain ⟨T', X', -, -, ht⟩ := X₁.outOfThrown (g := F0 m pc ls rest) rfl (mk := mk) (a := (Value.ref b :: As).toArray) hend hW2 hsm
  have hh2 : s₂.heap = T'.heap := by rw [ht]; exact throwing_heap _ _ _
  have hh3 : ((T.setVm vm₁).calling (F0 m pc ls rest) mk (Value.ref b :: As).toArray).heap = s.heap := hT
  rw [hh2] at hce
  have hz2 : s.heap.size ≤ T'.heap.size := by
    rw [← hh2, ← hh3]; exact hz
  have hk2 : ∀ i : Nat, i < s.heap.size → T'.heap[i]? = s.heap[i]? := by
    rw [← hh2, ← hh3]; exact hk
  refine ⟨q, ce, T', X', hce, hcv, ?_, hz2, hk2, fun target h9 => hstep₁ _ fun acts => ?_⟩
  · have h9 : (T.setVm vm₁).vm.findClass X = some ce.cls := hcl
    rw [X₁.warmed.alike.findClass] at h9
    exact h9
  · rw [doInvoke_state]
    rw [ht] at hsteps
    exact hsteps.trans h9
/-- .. and no row of this method's table catches it -/
theorem gx_cV (F : CallFix p m c cc nL s args gw own) (hM : gx_CT l y bytes maxL ret k E w (.ref b :: As) X) {r0 : vw_C} {q0 ci : Nat} {fs : List Value}
    (cw : CallW R s args own r0.1 index y bytes maxL ret (.code y bytes maxL ret :: gw) (gp_rm k 1 6) 1 6 n) (hK : va_K E.1 gp_cl (gp_ty E) s) (hP : va_P E.1 gp_cl w s.heap) (hSt : gx_St s)
    (hc : gp_cl[ci]? = some r0) (he : w[q0]? = some (b, .inr (ci, fs))) (hn : As.length = n) (hsize : ls.size = nL) (hstack : st0 = As.reverse ++ .ref b :: rest) (hW : (rest.map fun v => v.category).sum ≤ 8) (hdg : decode cc pc = .ok (.invokevirtual index, 3)) (hf : 1 ≤ R.cells ∧ 6 ≤ R.slots)
    (hem : ∀ x ∈ c.exceptionTable.toList, False) (hlocks : meth.locks = false) :
    W p l e R s m args below meth c s.heap [] 0 0 (gx_MQ below X args s) (F0 m pc ls st0) := by
  intro T hT X0
  obtain ⟨q, ce, T', X', hce, hcv, hcl, hz, hk, st⟩ := gx_go F hM cw hK hP hSt hc he hn hsize hstack hW hdg hf hT X0
  obtain ⟨hwalk, hrun, hended, hWU, hsame⟩ := X'.leaveThrown q (g := F0 m pc ls rest) rfl rfl rfl (fun x hx => (hem x hx).elim) hlocks
  exact ⟨_, st _ hwalk, .threw q, hrun, hended, q, ce, rfl, hce, hcv, hcl, hz, hk, hWU, hsame⟩
end GxC
end
section
/-! ===== methods that read and answer nothing ===== -/
def gp_QV : Array Value → State → Outcome → State → Prop := fun _ st o t => o = .returned none ∧ t.heap = st.heap
def gp_CV (l : Launch) (y : MethodName) (cc : ByteArray) (maxL : Nat) (ret : Option FieldType) (k : Nat) (E : gp_E) (w : va_W) (av : List Value) : Prop :=
  Met l y (.code y cc maxL ret :: gw) (gp_rm k 0 0) (va_Pc av (gp_p0 E w)) gp_QV 0 0 (fun _ => False)
section GpV
variable {l : Launch} {y : MethodName} {cc : ByteArray} {maxL : Nat} {ret : Option FieldType} {k : Nat} {E : gp_E} {w : va_W} {av : List Value}
theorem gp_ofV (hy : plainName y.cls = true) (hlen : (lg_sl av).length ≤ maxL)
    (body : ∀ (p : Program) (e : Env) (s : State) (m : MethodId) (below : List Frame) (meth : Method) (c : Code) (ls : Array Slot), p.tables.exec = Jvm.exec → c.code = cc → meth.sig.returnType = ret → (∀ x ∈ gw, x.before av.toArray s = true) → s.vm.findClass y.cls = some m.cls → meth.locks = false → c.maxLocals = maxL →
      va_P E.1 gp_cl w s.heap → va_K E.1 gp_cl (gp_ty E) s → lv_has ls maxL (lv_args 0 av) →
      W p l e (gp_rm k 0 0) s m av.toArray below meth c s.heap [] 0 0 (MQ below gp_QV av.toArray s 0 0 (fun _ => False)) (F0 m 0 ls [])) : gp_CV l y cc maxL ret k E w av := by
  refine Met.ofW (cc := cc) (maxL := maxL) (ret := ret) hy rfl ?_
  intro p e s m args below meth c s₁ B hml hv
  obtain ⟨rfl, hP, hK⟩ := hv
  have hts := atoms_spec (ws := .code y cc maxL ret :: gw) B.pre
  have hl := lv_entry av (n := maxL) hlen
  rw [lg_entry_eq]
  generalize (lg_sl av ++ List.replicate (maxL - (lg_sl av).length) Slot.unset).toArray = ls at hl ⊢
  exact body p e s m below meth c ls B.exec B.bytes B.returns (fun x h => hts x (List.mem_cons_of_mem _ h)) (findClass_of_methodNamed B.named) B.notSynchronized hml hP hK hl
end GpV
section GpV2
variable {p : Program} {l : Launch} {e : Env} {R : Room} {s : State} {m : MethodId} {args : Array Value} {below : List Frame} {meth : Method} {c : Code} {H : Heap} {locs : List Loc} {cells slots : Nat} {Q : State → Prop}
variable {y : MethodName} {bytes cc : ByteArray} {maxL nL n index k : Nat} {ret : Option FieldType} {own : String} {b : Addr} {As rest st0 : List Value} {pc : Nat} {ls : Array Slot}
variable {E : gp_E} {w : va_W}
theorem gp_cV0 {q0 ci : Nat} {r0 : vw_C} {fs : List Value} (F : CallFix p m c cc nL s args gw own) (hM : gp_CV l y bytes maxL ret k E w (.ref b :: As))
    (cw : CallW R s args own r0.1 index y bytes maxL ret (.code y bytes maxL ret :: gw) (gp_rm k 0 0) 0 0 n) (hK : va_K E.1 gp_cl (gp_ty E) s) (hP : va_P E.1 gp_cl w H)
    (hc : gp_cl[ci]? = some r0) (he : w[q0]? = some (b, .inr (ci, fs))) (hn : As.length = n) (hsize : ls.size = nL) (hstack : st0 = As.reverse ++ .ref b :: rest) (hW : (rest.map fun v => v.category).sum ≤ 8) (hdg : decode cc pc = .ok (.invokevirtual index, 3)) (hf : cells + 0 ≤ R.cells ∧ slots + 0 ≤ R.slots)
    (kk : W p l e R s m args below meth c H locs cells slots Q (F0 m (pc + 3) ls rest)) : W p l e R s m args below meth c H locs cells slots Q (F0 m pc ls st0) := by
  intro T hT X
  obtain ⟨v, st₀, t, T', L, h0, X', hL, e1, ⟨hv, hh⟩, st⟩ := W.runV (As := As) (rest := rest) F hM cw ⟨gp_b0, va_recv hK hP hc he, gp_s0 hK hP⟩ rfl hn hsize hstack (lv_room hW) hdg hf T hT X
  cases hv
  obtain ⟨t2, a1, b1⟩ := kk T' (by rw [e1, hh, h0]) (Stand.forget X' (fun q h => (hL q h).elim))
  exact ⟨t2, st t2 a1, b1⟩
theorem gp_rv (hx : p.tables.exec = Jvm.exec) (hb : c.code = cc) (hr : meth.sig.returnType = none) (hlocks : meth.locks = false) (hdg : decode cc pc = .ok (.return_, 1)) : W p l e R s m args below meth c s.heap [] 0 0 (MQ below gp_QV args s 0 0 (fun _ => False)) (F0 m pc ls []) :=
  W.vret hx hb hr (fun t ht _ => ⟨rfl, ht⟩) (fun _ h => nomatch h) hdg hlocks
end GpV2
theorem gx_hat1 : ∀ w ∈ gx_at 48 "java/lang/IllegalArgumentException", w ∈ gx_ws := fun _ h => List.mem_append_left _ h
theorem gx_hat2 : ∀ w ∈ gx_at 58 "java/lang/IllegalStateException", w ∈ gx_ws := fun _ h => List.mem_append_right _ (List.mem_append_left _ h)
theorem gx_hat3 : ∀ w ∈ gx_at 85 "java/util/NoSuchElementException", w ∈ gx_ws := fun _ h => List.mem_append_right _ (List.mem_append_right _ h)
end
section
set_option maxHeartbeats 4000000 in
set_option maxRecDepth 100000 in
theorem c_G_requirePerson (l : Launch) (E : gp_E) (I : Nat → Int32) (F : Nat → Nat → Int32) (x : Int32) (h : gp_in x (I 4) = true) : gp_CV l y_G_requirePerson b_G_requirePerson 2 none 2 E (gp_wG E I F) [.ref (E.2.2.2 0), .int x] := by
  refine gp_ofV (by decide) (Nat.le_of_ble_eq_true rfl) ?_
  intro xp xe xs xm below meth xc ls hx hb hr hts hown hlocks hml hP hK hl
  have hown : xs.vm.findClass "GuidePlans" = some xm.cls := hown
  have hl : lv_has ls 2 [(0, .ref (E.2.2.2 0)), (1, .int x)] := hl
  refine lv_aload_n hx hb d_G_requirePerson_0 rfl (lv_at hl 0 rfl) ?_
  refine va_get (D := E.1) (cl := gp_cl) (ci := 0) (v := .ref (E.2.2.2 1)) (C := R_G) (T := T_G) (N := 8) hx hb hts i_G hown hK hP 0 rfl rfl 0 (by decide) (hts _ w1_117) (fun _ h9 => h9) rfl d_G_requirePerson_1 ?_
  refine lv_iload_n hx hb d_G_requirePerson_4 rfl (lv_at hl 1 rfl) ?_
  refine gp_cR (q0 := 1) (ci := 1) (As := [.int x]) (rest := []) ⟨hx, hb, hml, hown, hts⟩ (show gp_CR _ _ _ _ _ _ _ _ _ 1 from by have h9 := c_D_hasPerson l E I F x; rw [h, if_pos rfl] at h9; exact h9) (k_G_167 hts ⟨by decide, by decide⟩ rfl rfl) hK hP rfl rfl rfl hl.1 rfl (Nat.le_of_ble_eq_true rfl) d_G_requirePerson_5 ⟨Nat.le_of_ble_eq_true rfl, Nat.le_of_ble_eq_true rfl⟩ ?_
  refine lv_if_ne (tgt := 21) hx hb d_G_requirePerson_8 (by decide) (fun c8 => ?_) (fun c8 => ?_)
  · have c8 := c8
    have nc8 : ¬ 1 = 0 := fun h => c8 ((nI_eq (a := 1) (b := 0) (by omega) (by omega)).mpr h)
    exact gp_rv hx hb hr hlocks d_G_requirePerson_21
  · exact absurd c8 (by decide)
set_option maxHeartbeats 4000000 in
set_option maxRecDepth 100000 in
theorem x_G_requirePerson (l : Launch) (E : gp_E) (I : Nat → Int32) (F : Nat → Nat → Int32) (x : Int32) (hlt : l.stackTraces = false) (h : gp_in x (I 4) = false) : gx_CT l y_G_requirePerson b_G_requirePerson 2 none 6 E (gp_wG E I F) [.ref (E.2.2.2 0), .int x] "java/util/NoSuchElementException" := by
  refine gx_ofT (by decide) (Nat.le_of_ble_eq_true rfl) ?_
  intro xp xe xs xm below meth xc ls hx hb hr hts hown hlocks hml hem hP hK hSt hl
  have hown : xs.vm.findClass "GuidePlans" = some xm.cls := hown
  have hl : lv_has ls 2 [(0, .ref (E.2.2.2 0)), (1, .int x)] := hl
  refine lv_aload_n hx hb d_G_requirePerson_0 rfl (lv_at hl 0 rfl) ?_
  refine va_get (D := E.1) (cl := gp_cl) (ci := 0) (v := .ref (E.2.2.2 1)) (C := R_G) (T := T_G) (N := 8) hx hb hts i_G hown hK hP 0 rfl rfl 0 (by decide) (hts _ w1_117) (fun _ h9 => h9) rfl d_G_requirePerson_1 ?_
  refine lv_iload_n hx hb d_G_requirePerson_4 rfl (lv_at hl 1 rfl) ?_
  refine gp_cR (q0 := 1) (ci := 1) (As := [.int x]) (rest := []) ⟨hx, hb, hml, hown, hts⟩ (show gp_CR _ _ _ _ _ _ _ _ _ 0 from by have h9 := c_D_hasPerson l E I F x; rw [h, if_neg (by decide)] at h9; exact h9) (k_G_167 hts ⟨by decide, by decide⟩ rfl rfl) hK hP rfl rfl rfl hl.1 rfl (Nat.le_of_ble_eq_true rfl) d_G_requirePerson_5 ⟨Nat.le_of_ble_eq_true rfl, Nat.le_of_ble_eq_true rfl⟩ ?_
  refine lv_if_ne (tgt := 21) hx hb d_G_requirePerson_8 (by decide) (fun c8 => ?_) (fun c8 => ?_)
  · exact absurd c8 (by decide)
  · have c8 := c8
    have nc8 : 0 = 0 := (nI_eq (a := 0) (b := 0) (by omega) (by omega)).mp c8
    exact gx_thr (X := "java/util/NoSuchElementException") (ik := 81) (is := 171) (ic := 85) (tx := "no such person") hx hb hlt hown (by decide) (hts _ w2_116) (hts _ w1_10) hSt gx_hat3 (by decide) (hl.1.trans hml.symm) d_G_requirePerson_11 d_G_requirePerson_14 d_G_requirePerson_15 d_G_requirePerson_17 d_G_requirePerson_20 hem (Nat.le_of_ble_eq_true rfl) (Nat.le_of_ble_eq_true rfl) (Nat.le_of_ble_eq_true rfl) (Nat.le_of_ble_eq_true rfl) hlocks
set_option maxHeartbeats 4000000 in
set_option maxRecDepth 100000 in
theorem c_G_requireTask (l : Launch) (E : gp_E) (I : Nat → Int32) (F : Nat → Nat → Int32) (x : Int32) (h : gp_in x (I 6) = true) : gp_CV l y_G_requireTask b_G_requireTask 2 none 2 E (gp_wG E I F) [.ref (E.2.2.2 0), .int x] := by
  refine gp_ofV (by decide) (Nat.le_of_ble_eq_true rfl) ?_
  intro xp xe xs xm below meth xc ls hx hb hr hts hown hlocks hml hP hK hl
  have hown : xs.vm.findClass "GuidePlans" = some xm.cls := hown
  have hl : lv_has ls 2 [(0, .ref (E.2.2.2 0)), (1, .int x)] := hl
  refine lv_aload_n hx hb d_G_requireTask_0 rfl (lv_at hl 0 rfl) ?_
  refine va_get (D := E.1) (cl := gp_cl) (ci := 0) (v := .ref (E.2.2.2 1)) (C := R_G) (T := T_G) (N := 8) hx hb hts i_G hown hK hP 0 rfl rfl 0 (by decide) (hts _ w1_117) (fun _ h9 => h9) rfl d_G_requireTask_1 ?_
  refine lv_iload_n hx hb d_G_requireTask_4 rfl (lv_at hl 1 rfl) ?_
  refine gp_cR (q0 := 1) (ci := 1) (As := [.int x]) (rest := []) ⟨hx, hb, hml, hown, hts⟩ (show gp_CR _ _ _ _ _ _ _ _ _ 1 from by have h9 := c_D_hasTask l E I F x; rw [h, if_pos rfl] at h9; exact h9) (k_G_173 hts ⟨by decide, by decide⟩ rfl rfl) hK hP rfl rfl rfl hl.1 rfl (Nat.le_of_ble_eq_true rfl) d_G_requireTask_5 ⟨Nat.le_of_ble_eq_true rfl, Nat.le_of_ble_eq_true rfl⟩ ?_
  refine lv_if_ne (tgt := 21) hx hb d_G_requireTask_8 (by decide) (fun c8 => ?_) (fun c8 => ?_)
  · have c8 := c8
    have nc8 : ¬ 1 = 0 := fun h => c8 ((nI_eq (a := 1) (b := 0) (by omega) (by omega)).mpr h)
    exact gp_rv hx hb hr hlocks d_G_requireTask_21
  · exact absurd c8 (by decide)
set_option maxHeartbeats 4000000 in
set_option maxRecDepth 100000 in
theorem x_G_requireTask (l : Launch) (E : gp_E) (I : Nat → Int32) (F : Nat → Nat → Int32) (x : Int32) (hlt : l.stackTraces = false) (h : gp_in x (I 6) = false) : gx_CT l y_G_requireTask b_G_requireTask 2 none 6 E (gp_wG E I F) [.ref (E.2.2.2 0), .int x] "java/util/NoSuchElementException" := by
  refine gx_ofT (by decide) (Nat.le_of_ble_eq_true rfl) ?_
  intro xp xe xs xm below meth xc ls hx hb hr hts hown hlocks hml hem hP hK hSt hl
  have hown : xs.vm.findClass "GuidePlans" = some xm.cls := hown
  have hl : lv_has ls 2 [(0, .ref (E.2.2.2 0)), (1, .int x)] := hl
  refine lv_aload_n hx hb d_G_requireTask_0 rfl (lv_at hl 0 rfl) ?_
  refine va_get (D := E.1) (cl := gp_cl) (ci := 0) (v := .ref (E.2.2.2 1)) (C := R_G) (T := T_G) (N := 8) hx hb hts i_G hown hK hP 0 rfl rfl 0 (by decide) (hts _ w1_117) (fun _ h9 => h9) rfl d_G_requireTask_1 ?_
  refine lv_iload_n hx hb d_G_requireTask_4 rfl (lv_at hl 1 rfl) ?_
  refine gp_cR (q0 := 1) (ci := 1) (As := [.int x]) (rest := []) ⟨hx, hb, hml, hown, hts⟩ (show gp_CR _ _ _ _ _ _ _ _ _ 0 from by have h9 := c_D_hasTask l E I F x; rw [h, if_neg (by decide)] at h9; exact h9) (k_G_173 hts ⟨by decide, by decide⟩ rfl rfl) hK hP rfl rfl rfl hl.1 rfl (Nat.le_of_ble_eq_true rfl) d_G_requireTask_5 ⟨Nat.le_of_ble_eq_true rfl, Nat.le_of_ble_eq_true rfl⟩ ?_
  refine lv_if_ne (tgt := 21) hx hb d_G_requireTask_8 (by decide) (fun c8 => ?_) (fun c8 => ?_)
  · exact absurd c8 (by decide)
  · have c8 := c8
    have nc8 : 0 = 0 := (nI_eq (a := 0) (b := 0) (by omega) (by omega)).mp c8
    exact gx_thr (X := "java/util/NoSuchElementException") (ik := 81) (is := 176) (ic := 85) (tx := "no such task") hx hb hlt hown (by decide) (hts _ w2_116) (hts _ w1_10) hSt gx_hat3 (by decide) (hl.1.trans hml.symm) d_G_requireTask_11 d_G_requireTask_14 d_G_requireTask_15 d_G_requireTask_17 d_G_requireTask_20 hem (Nat.le_of_ble_eq_true rfl) (Nat.le_of_ble_eq_true rfl) (Nat.le_of_ble_eq_true rfl) (Nat.le_of_ble_eq_true rfl) hlocks
set_option maxHeartbeats 4000000 in
set_option maxRecDepth 100000 in
theorem c_G_requireSpan (l : Launch) (E : gp_E) (I : Nat → Int32) (F : Nat → Nat → Int32) (x y : Int32) (h1 : ¬ x < 0) (h2 : ¬ y ≤ x) (h3 : y ≤ 96) : gp_CV l y_G_requireSpan b_G_requireSpan 3 none 1 E (gp_wG E I F) [.ref (E.2.2.2 0), .int x, .int y] := by
  refine gp_ofV (by decide) (Nat.le_of_ble_eq_true rfl) ?_
  intro xp xe xs xm below meth xc ls hx hb hr hts hown hlocks hml hP hK hl
  have hown : xs.vm.findClass "GuidePlans" = some xm.cls := hown
  have hl : lv_has ls 3 [(0, .ref (E.2.2.2 0)), (1, .int x), (2, .int y)] := hl
  refine lv_iload_n hx hb d_G_requireSpan_0 rfl (lv_at hl 1 rfl) ?_
  refine lv_if_lt (tgt := 15) hx hb d_G_requireSpan_1 (by decide) (fun c1 => ?_) (fun c1 => ?_)
  · have c1 := c1
    have mc1 : ¬ 0 ≤ x := Int32.not_le.mpr c1
    exact False.elim (h1 c1)
  · have c1 := c1
    have mc1 : 0 ≤ x := Int32.not_lt.mp c1
    refine lv_iload_n hx hb d_G_requireSpan_4 rfl (lv_at hl 1 rfl) ?_
    refine lv_iload_n hx hb d_G_requireSpan_5 rfl (lv_at hl 2 rfl) ?_
    refine lv_icmp_ge (tgt := 15) hx hb d_G_requireSpan_6 (by decide) (fun c6 => ?_) (fun c6 => ?_)
    · have c6 := c6
      have mc6 : ¬ x < y := Int32.not_lt.mpr c6
      exact False.elim (h2 c6)
    · have c6 := c6
      have mc6 : x < y := Int32.not_le.mp c6
      refine lv_iload_n hx hb d_G_requireSpan_9 rfl (lv_at hl 2 rfl) ?_
      refine lv_bipush (v := 96) hx hb d_G_requireSpan_10 (by decide) ?_
      refine lv_icmp_le (tgt := 25) hx hb d_G_requireSpan_12 (by decide) (fun c12 => ?_) (fun c12 => ?_)
      · have c12 := c12
        have mc12 : ¬ 96 < y := Int32.not_lt.mpr c12
        exact gp_rv hx hb hr hlocks d_G_requireSpan_25
      · have c12 := c12
        have mc12 : 96 < y := Int32.not_le.mp c12
        exact False.elim (c12 h3)
set_option maxHeartbeats 4000000 in
set_option maxRecDepth 100000 in
theorem x_G_requireSpan (l : Launch) (E : gp_E) (I : Nat → Int32) (F : Nat → Nat → Int32) (x y : Int32) (hlt : l.stackTraces = false) (h : ¬ (¬ x < 0 ∧ ¬ y ≤ x ∧ y ≤ 96)) : gx_CT l y_G_requireSpan b_G_requireSpan 3 none 6 E (gp_wG E I F) [.ref (E.2.2.2 0), .int x, .int y] "java/lang/IllegalArgumentException" := by
  refine gx_ofT (by decide) (Nat.le_of_ble_eq_true rfl) ?_
  intro xp xe xs xm below meth xc ls hx hb hr hts hown hlocks hml hem hP hK hSt hl
  have hown : xs.vm.findClass "GuidePlans" = some xm.cls := hown
  have hl : lv_has ls 3 [(0, .ref (E.2.2.2 0)), (1, .int x), (2, .int y)] := hl
  refine lv_iload_n hx hb d_G_requireSpan_0 rfl (lv_at hl 1 rfl) ?_
  refine lv_if_lt (tgt := 15) hx hb d_G_requireSpan_1 (by decide) (fun c1 => ?_) (fun c1 => ?_)
  · have c1 := c1
    have mc1 : ¬ 0 ≤ x := Int32.not_le.mpr c1
    exact gx_thr (X := "java/lang/IllegalArgumentException") (ik := 44) (is := 178) (ic := 48) (tx := "not 0 <= from < to <= 96") hx hb hlt hown (by decide) (hts _ w2_15) (hts _ w1_8) hSt gx_hat1 (by decide) (hl.1.trans hml.symm) d_G_requireSpan_15 d_G_requireSpan_18 d_G_requireSpan_19 d_G_requireSpan_21 d_G_requireSpan_24 hem (Nat.le_of_ble_eq_true rfl) (Nat.le_of_ble_eq_true rfl) (Nat.le_of_ble_eq_true rfl) (Nat.le_of_ble_eq_true rfl) hlocks
  · have c1 := c1
    have mc1 : 0 ≤ x := Int32.not_lt.mp c1
    refine lv_iload_n hx hb d_G_requireSpan_4 rfl (lv_at hl 1 rfl) ?_
    refine lv_iload_n hx hb d_G_requireSpan_5 rfl (lv_at hl 2 rfl) ?_
    refine lv_icmp_ge (tgt := 15) hx hb d_G_requireSpan_6 (by decide) (fun c6 => ?_) (fun c6 => ?_)
    · have c6 := c6
      have mc6 : ¬ x < y := Int32.not_lt.mpr c6
      exact gx_thr (X := "java/lang/IllegalArgumentException") (ik := 44) (is := 178) (ic := 48) (tx := "not 0 <= from < to <= 96") hx hb hlt hown (by decide) (hts _ w2_15) (hts _ w1_8) hSt gx_hat1 (by decide) (hl.1.trans hml.symm) d_G_requireSpan_15 d_G_requireSpan_18 d_G_requireSpan_19 d_G_requireSpan_21 d_G_requireSpan_24 hem (Nat.le_of_ble_eq_true rfl) (Nat.le_of_ble_eq_true rfl) (Nat.le_of_ble_eq_true rfl) (Nat.le_of_ble_eq_true rfl) hlocks
    · have c6 := c6
      have mc6 : x < y := Int32.not_le.mp c6
      refine lv_iload_n hx hb d_G_requireSpan_9 rfl (lv_at hl 2 rfl) ?_
      refine lv_bipush (v := 96) hx hb d_G_requireSpan_10 (by decide) ?_
      refine lv_icmp_le (tgt := 25) hx hb d_G_requireSpan_12 (by decide) (fun c12 => ?_) (fun c12 => ?_)
      · have c12 := c12
        have mc12 : ¬ 96 < y := Int32.not_lt.mpr c12
        exact (h ⟨c1, c6, c12⟩).elim
      · have c12 := c12
        have mc12 : 96 < y := Int32.not_le.mp c12
        exact gx_thr (X := "java/lang/IllegalArgumentException") (ik := 44) (is := 178) (ic := 48) (tx := "not 0 <= from < to <= 96") hx hb hlt hown (by decide) (hts _ w2_15) (hts _ w1_8) hSt gx_hat1 (by decide) (hl.1.trans hml.symm) d_G_requireSpan_15 d_G_requireSpan_18 d_G_requireSpan_19 d_G_requireSpan_21 d_G_requireSpan_24 hem (Nat.le_of_ble_eq_true rfl) (Nat.le_of_ble_eq_true rfl) (Nat.le_of_ble_eq_true rfl) (Nat.le_of_ble_eq_true rfl) hlocks
set_option maxHeartbeats 4000000 in
set_option maxRecDepth 100000 in
theorem c_G_requireQuarters (l : Launch) (E : gp_E) (I : Nat → Int32) (F : Nat → Nat → Int32) (x : Int32) (h1 : ¬ x < 0) (h3 : x ≤ 96) : gp_CV l y_G_requireQuarters b_G_requireQuarters 2 none 1 E (gp_wG E I F) [.ref (E.2.2.2 0), .int x] := by
  refine gp_ofV (by decide) (Nat.le_of_ble_eq_true rfl) ?_
  intro xp xe xs xm below meth xc ls hx hb hr hts hown hlocks hml hP hK hl
  have hown : xs.vm.findClass "GuidePlans" = some xm.cls := hown
  have hl : lv_has ls 2 [(0, .ref (E.2.2.2 0)), (1, .int x)] := hl
  refine lv_iload_n hx hb d_G_requireQuarters_0 rfl (lv_at hl 1 rfl) ?_
  refine lv_if_lt (tgt := 10) hx hb d_G_requireQuarters_1 (by decide) (fun c1 => ?_) (fun c1 => ?_)
  · have c1 := c1
    have mc1 : ¬ 0 ≤ x := Int32.not_le.mpr c1
    exact False.elim (h1 c1)
  · have c1 := c1
    have mc1 : 0 ≤ x := Int32.not_lt.mp c1
    refine lv_iload_n hx hb d_G_requireQuarters_4 rfl (lv_at hl 1 rfl) ?_
    refine lv_bipush (v := 96) hx hb d_G_requireQuarters_5 (by decide) ?_
    refine lv_icmp_le (tgt := 20) hx hb d_G_requireQuarters_7 (by decide) (fun c7 => ?_) (fun c7 => ?_)
    · have c7 := c7
      have mc7 : ¬ 96 < x := Int32.not_lt.mpr c7
      exact gp_rv hx hb hr hlocks d_G_requireQuarters_20
    · have c7 := c7
      have mc7 : 96 < x := Int32.not_le.mp c7
      exact False.elim (c7 h3)
set_option maxHeartbeats 4000000 in
set_option maxRecDepth 100000 in
theorem x_G_requireQuarters (l : Launch) (E : gp_E) (I : Nat → Int32) (F : Nat → Nat → Int32) (x : Int32) (hlt : l.stackTraces = false) (h : ¬ (¬ x < 0 ∧ x ≤ 96)) : gx_CT l y_G_requireQuarters b_G_requireQuarters 2 none 6 E (gp_wG E I F) [.ref (E.2.2.2 0), .int x] "java/lang/IllegalArgumentException" := by
  refine gx_ofT (by decide) (Nat.le_of_ble_eq_true rfl) ?_
  intro xp xe xs xm below meth xc ls hx hb hr hts hown hlocks hml hem hP hK hSt hl
  have hown : xs.vm.findClass "GuidePlans" = some xm.cls := hown
  have hl : lv_has ls 2 [(0, .ref (E.2.2.2 0)), (1, .int x)] := hl
  refine lv_iload_n hx hb d_G_requireQuarters_0 rfl (lv_at hl 1 rfl) ?_
  refine lv_if_lt (tgt := 10) hx hb d_G_requireQuarters_1 (by decide) (fun c1 => ?_) (fun c1 => ?_)
  · have c1 := c1
    have mc1 : ¬ 0 ≤ x := Int32.not_le.mpr c1
    exact gx_thr (X := "java/lang/IllegalArgumentException") (ik := 44) (is := 180) (ic := 48) (tx := "quarters are not 0 .. 96") hx hb hlt hown (by decide) (hts _ w2_15) (hts _ w1_8) hSt gx_hat1 (by decide) (hl.1.trans hml.symm) d_G_requireQuarters_10 d_G_requireQuarters_13 d_G_requireQuarters_14 d_G_requireQuarters_16 d_G_requireQuarters_19 hem (Nat.le_of_ble_eq_true rfl) (Nat.le_of_ble_eq_true rfl) (Nat.le_of_ble_eq_true rfl) (Nat.le_of_ble_eq_true rfl) hlocks
  · have c1 := c1
    have mc1 : 0 ≤ x := Int32.not_lt.mp c1
    refine lv_iload_n hx hb d_G_requireQuarters_4 rfl (lv_at hl 1 rfl) ?_
    refine lv_bipush (v := 96) hx hb d_G_requireQuarters_5 (by decide) ?_
    refine lv_icmp_le (tgt := 20) hx hb d_G_requireQuarters_7 (by decide) (fun c7 => ?_) (fun c7 => ?_)
    · have c7 := c7
      have mc7 : ¬ 96 < x := Int32.not_lt.mpr c7
      exact (h ⟨c1, c7⟩).elim
    · have c7 := c7
      have mc7 : 96 < x := Int32.not_le.mp c7
      exact gx_thr (X := "java/lang/IllegalArgumentException") (ik := 44) (is := 180) (ic := 48) (tx := "quarters are not 0 .. 96") hx hb hlt hown (by decide) (hts _ w2_15) (hts _ w1_8) hSt gx_hat1 (by decide) (hl.1.trans hml.symm) d_G_requireQuarters_10 d_G_requireQuarters_13 d_G_requireQuarters_14 d_G_requireQuarters_16 d_G_requireQuarters_19 hem (Nat.le_of_ble_eq_true rfl) (Nat.le_of_ble_eq_true rfl) (Nat.le_of_ble_eq_true rfl) (Nat.le_of_ble_eq_true rfl) hlocks
set_option maxHeartbeats 4000000 in
set_option maxRecDepth 100000 in
theorem c_G_requirePlan (l : Launch) (E : gp_E) (I : Nat → Int32) (F : Nat → Nat → Int32)  (h : ¬ I 3 = 0) : gp_CV l y_G_requirePlan b_G_requirePlan 1 none 1 E (gp_wG E I F) [.ref (E.2.2.2 0)] := by
  refine gp_ofV (by decide) (Nat.le_of_ble_eq_true rfl) ?_
  intro xp xe xs xm below meth xc ls hx hb hr hts hown hlocks hml hP hK hl
  have hown : xs.vm.findClass "GuidePlans" = some xm.cls := hown
  have hl : lv_has ls 1 [(0, .ref (E.2.2.2 0))] := hl
  refine lv_aload_n hx hb d_G_requirePlan_0 rfl (lv_at hl 0 rfl) ?_
  refine va_get (D := E.1) (cl := gp_cl) (ci := 0) (v := .int (I 3)) (C := R_G) (T := T_G) (N := 8) hx hb hts i_G hown hK hP 0 rfl rfl 7 (by decide) (hts _ w1_124) (fun _ h9 => h9) rfl d_G_requirePlan_1 ?_
  refine lv_if_ne (tgt := 17) hx hb d_G_requirePlan_4 (by decide) (fun c4 => ?_) (fun c4 => ?_)
  · have c4 := c4
    exact gp_rv hx hb hr hlocks d_G_requirePlan_17
  · have c4 := c4
    exact False.elim (h c4)
set_option maxHeartbeats 4000000 in
set_option maxRecDepth 100000 in
theorem x_G_requirePlan (l : Launch) (E : gp_E) (I : Nat → Int32) (F : Nat → Nat → Int32)  (hlt : l.stackTraces = false) (h : I 3 = 0) : gx_CT l y_G_requirePlan b_G_requirePlan 1 none 6 E (gp_wG E I F) [.ref (E.2.2.2 0)] "java/lang/IllegalStateException" := by
  refine gx_ofT (by decide) (Nat.le_of_ble_eq_true rfl) ?_
  intro xp xe xs xm below meth xc ls hx hb hr hts hown hlocks hml hem hP hK hSt hl
  have hown : xs.vm.findClass "GuidePlans" = some xm.cls := hown
  have hl : lv_has ls 1 [(0, .ref (E.2.2.2 0))] := hl
  refine lv_aload_n hx hb d_G_requirePlan_0 rfl (lv_at hl 0 rfl) ?_
  refine va_get (D := E.1) (cl := gp_cl) (ci := 0) (v := .int (I 3)) (C := R_G) (T := T_G) (N := 8) hx hb hts i_G hown hK hP 0 rfl rfl 7 (by decide) (hts _ w1_124) (fun _ h9 => h9) rfl d_G_requirePlan_1 ?_
  refine lv_if_ne (tgt := 17) hx hb d_G_requirePlan_4 (by decide) (fun c4 => ?_) (fun c4 => ?_)
  · have c4 := c4
    exact False.elim (c4 h)
  · have c4 := c4
    exact gx_thr (X := "java/lang/IllegalStateException") (ik := 54) (is := 182) (ic := 58) (tx := "nothing was planned") hx hb hlt hown (by decide) (hts _ w2_83) (hts _ w1_9) hSt gx_hat2 (by decide) (hl.1.trans hml.symm) d_G_requirePlan_7 d_G_requirePlan_10 d_G_requirePlan_11 d_G_requirePlan_13 d_G_requirePlan_16 hem (Nat.le_of_ble_eq_true rfl) (Nat.le_of_ble_eq_true rfl) (Nat.le_of_ble_eq_true rfl) (Nat.le_of_ble_eq_true rfl) hlocks
set_option maxHeartbeats 4000000 in
set_option maxRecDepth 100000 in
theorem c_G_requireRoomForSpan (l : Launch) (E : gp_E) (I : Nat → Int32) (F : Nat → Nat → Int32) (ns : Nat) (hN : I 5 = nI ns) (h : ns < 20) : gp_CV l y_G_requireRoomForSpan b_G_requireRoomForSpan 1 none 1 E (gp_wG E I F) [.ref (E.2.2.2 0)] := by
  refine gp_ofV (by decide) (Nat.le_of_ble_eq_true rfl) ?_
  intro xp xe xs xm below meth xc ls hx hb hr hts hown hlocks hml hP hK hl
  have hown : xs.vm.findClass "GuidePlans" = some xm.cls := hown
  have hl : lv_has ls 1 [(0, .ref (E.2.2.2 0))] := hl
  refine lv_aload_n hx hb d_G_requireRoomForSpan_0 rfl (lv_at hl 0 rfl) ?_
  refine va_get (D := E.1) (cl := gp_cl) (ci := 0) (v := .ref (E.2.2.2 1)) (C := R_G) (T := T_G) (N := 8) hx hb hts i_G hown hK hP 0 rfl rfl 0 (by decide) (hts _ w1_117) (fun _ h9 => h9) rfl d_G_requireRoomForSpan_1 ?_
  refine va_get (D := E.1) (cl := gp_cl) (ci := 1) (v := .int (nI ns)) (C := R_D) (T := T_D) (N := 13) hx hb hts i_D hown hK hP 1 rfl rfl 9 (by decide) (hts _ w1_43) (fun _ h9 => h9) (congrArg (fun z => some (Value.int z)) hN) d_G_requireRoomForSpan_4 ?_
  refine lv_bipush (v := 20) hx hb d_G_requireRoomForSpan_7 (by decide) ?_
  refine lv_icmp_lt (tgt := 22) hx hb d_G_requireRoomForSpan_9 (by decide) (fun c9 => ?_) (fun c9 => ?_)
  · have c9 := c9
    have nc9 : ns < 20 := (nI_ltI (a := ns) (b := 20) (by omega) (by omega)).mp c9
    exact gp_rv hx hb hr hlocks d_G_requireRoomForSpan_22
  · have c9 := c9
    have nc9 : ¬ ns < 20 := fun h => c9 ((nI_ltI (a := ns) (b := 20) (by omega) (by omega)).mpr h)
    exact False.elim (by omega)
set_option maxHeartbeats 4000000 in
set_option maxRecDepth 100000 in
theorem x_G_requireRoomForSpan (l : Launch) (E : gp_E) (I : Nat → Int32) (F : Nat → Nat → Int32)  (hlt : l.stackTraces = false) (hN : I 5 = nI 20) : gx_CT l y_G_requireRoomForSpan b_G_requireRoomForSpan 1 none 6 E (gp_wG E I F) [.ref (E.2.2.2 0)] "java/lang/IllegalStateException" := by
  refine gx_ofT (by decide) (Nat.le_of_ble_eq_true rfl) ?_
  intro xp xe xs xm below meth xc ls hx hb hr hts hown hlocks hml hem hP hK hSt hl
  have hown : xs.vm.findClass "GuidePlans" = some xm.cls := hown
  have hl : lv_has ls 1 [(0, .ref (E.2.2.2 0))] := hl
  refine lv_aload_n hx hb d_G_requireRoomForSpan_0 rfl (lv_at hl 0 rfl) ?_
  refine va_get (D := E.1) (cl := gp_cl) (ci := 0) (v := .ref (E.2.2.2 1)) (C := R_G) (T := T_G) (N := 8) hx hb hts i_G hown hK hP 0 rfl rfl 0 (by decide) (hts _ w1_117) (fun _ h9 => h9) rfl d_G_requireRoomForSpan_1 ?_
  refine va_get (D := E.1) (cl := gp_cl) (ci := 1) (v := .int (nI 20)) (C := R_D) (T := T_D) (N := 13) hx hb hts i_D hown hK hP 1 rfl rfl 9 (by decide) (hts _ w1_43) (fun _ h9 => h9) (congrArg (fun z => some (Value.int z)) hN) d_G_requireRoomForSpan_4 ?_
  refine lv_bipush (v := 20) hx hb d_G_requireRoomForSpan_7 (by decide) ?_
  refine lv_icmp_lt (tgt := 22) hx hb d_G_requireRoomForSpan_9 (by decide) (fun c9 => ?_) (fun c9 => ?_)
  · have c9 := c9
    have nc9 : 20 < 20 := (nI_ltI (a := 20) (b := 20) (by omega) (by omega)).mp c9
    exact False.elim (by omega)
  · have c9 := c9
    have nc9 : ¬ 20 < 20 := fun h => c9 ((nI_ltI (a := 20) (b := 20) (by omega) (by omega)).mpr h)
    exact gx_thr (X := "java/lang/IllegalStateException") (ik := 54) (is := 184) (ic := 58) (tx := "there are 20 spans off") hx hb hlt hown (by decide) (hts _ w2_83) (hts _ w1_9) hSt gx_hat2 (by decide) (hl.1.trans hml.symm) d_G_requireRoomForSpan_12 d_G_requireRoomForSpan_15 d_G_requireRoomForSpan_16 d_G_requireRoomForSpan_18 d_G_requireRoomForSpan_21 hem (Nat.le_of_ble_eq_true rfl) (Nat.le_of_ble_eq_true rfl) (Nat.le_of_ble_eq_true rfl) (Nat.le_of_ble_eq_true rfl) hlocks
end
section
def gp_fm (f : Nat → Int32) (nt : Nat) : Nat → Int32
  | 0 => 0
  | k + 1 => if gp_fm f nt k < gp_nu f (nI k) nt then gp_nu f (nI k) nt else gp_fm f nt k
def gp_fw (f : Nat → Int32) (nt : Nat) : Nat → Int32
  | 0 => 6
  | k + 1 => if gp_nu f (nI k) nt < gp_fw f nt k then gp_nu f (nI k) nt else gp_fw f nt k
set_option maxHeartbeats 4000000 in
set_option maxRecDepth 100000 in
theorem c_G_person (l : Launch) (E : gp_E) (I : Nat → Int32) (F : Nat → Nat → Int32) (np : Nat) (x : Int32) (hp4 : I 4 = nI np) (hnp : np < 4) (h1 : ¬ x < 0) (h2 : x < 256) : gp_CW l y_G_person b_G_person 2 (some .int) 2 E (gp_wG E I F) (gp_wG E (upd I 4 (nI (np + 1))) (gp_uF F 0 (upd (F 0) np x))) [.ref (E.2.2.2 0), .int x] (some (.int (nI np))) := by
  refine gp_ofW (by decide) (Nat.le_of_ble_eq_true rfl) ?_
  intro xp xe xs xm below meth xc ls A hx hb hr hts hown hlocks hml hP hK hD hA hAe hl
  have hS : va_S A xs.heap xs.heap [] := va_S.rf
  have hown : xs.vm.findClass "GuidePlans" = some xm.cls := hown
  have hl : lv_has ls 2 [(0, .ref (E.2.2.2 0)), (1, .int x)] := hl
  refine lv_iload_n hx hb d_G_person_0 rfl (lv_at hl 1 rfl) ?_
  refine lv_if_lt (tgt := 11) hx hb d_G_person_1 (by decide) (fun c1 => ?_) (fun c1 => ?_)
  · have c1 := c1
    have mc1 : ¬ 0 ≤ x := Int32.not_le.mpr c1
    exact False.elim (h1 c1)
  · have c1 := c1
    have mc1 : 0 ≤ x := Int32.not_lt.mp c1
    refine lv_iload_n hx hb d_G_person_4 rfl (lv_at hl 1 rfl) ?_
    refine lv_sipush (v := 256) hx hb d_G_person_5 (by decide) ?_
    refine lv_icmp_lt (tgt := 21) hx hb d_G_person_8 (by decide) (fun c8 => ?_) (fun c8 => ?_)
    · have c8 := c8
      have mc8 : ¬ 256 ≤ x := Int32.not_le.mpr c8
      refine lv_aload_n hx hb d_G_person_21 rfl (lv_at hl 0 rfl) ?_
      refine va_get (D := E.1) (cl := gp_cl) (ci := 0) (v := .ref (E.2.2.2 1)) (C := R_G) (T := T_G) (N := 8) hx hb hts i_G hown hK hP 0 rfl rfl 0 (by decide) (hts _ w1_117) (fun _ h9 => h9) rfl d_G_person_22 ?_
      refine va_get (D := E.1) (cl := gp_cl) (ci := 1) (v := .int (nI np)) (C := R_D) (T := T_D) (N := 13) hx hb hts i_D hown hK hP 1 rfl rfl 8 (by decide) (hts _ w1_40) (fun _ h9 => h9) (congrArg (fun z => some (Value.int z)) hp4) d_G_person_25 ?_
      refine lv_iconst (v := 4) hx hb d_G_person_28 (by decide) ?_
      refine lv_icmp_lt (tgt := 42) hx hb d_G_person_29 (by decide) (fun c29 => ?_) (fun c29 => ?_)
      · have c29 := c29
        have nc29 : np < 4 := (nI_ltI (a := np) (b := 4) (by omega) (by omega)).mp c29
        refine lv_aload_n hx hb d_G_person_42 rfl (lv_at hl 0 rfl) ?_
        refine va_get (D := E.1) (cl := gp_cl) (ci := 0) (v := .ref (E.2.2.2 1)) (C := R_G) (T := T_G) (N := 8) hx hb hts i_G hown hK hP 0 rfl rfl 0 (by decide) (hts _ w1_117) (fun _ h9 => h9) rfl d_G_person_43 ?_
        refine lv_iload_n hx hb d_G_person_46 rfl (lv_at hl 1 rfl) ?_
        refine gp_cW (q0 := 1) (ci := 1) (As := [.int x]) (rest := []) ⟨hx, hb, hml, hown, hts⟩ (c_D_addPerson l E I F np x hp4 hnp) (k_G_59 hts ⟨by decide, by decide⟩ rfl rfl) hK hP hD hS hA rfl rfl rfl rfl hl.1 rfl (Nat.le_of_ble_eq_true rfl) d_G_person_47 ⟨Nat.le_of_ble_eq_true rfl, Nat.le_of_ble_eq_true rfl⟩ (fun H locs hP hD hS => ?_)
        have hP : va_P E.1 gp_cl (gp_wG E (upd I 4 (nI (np + 1))) (gp_uF F 0 (upd (F 0) np x))) H := hP
        have hD : va_D A (gp_wG E (upd I 4 (nI (np + 1))) (gp_uF F 0 (upd (F 0) np x))) := hD
        refine W.eq (g2 := F0 xm 50 ls [.int (nI np)]) rfl ?_
        exact gp_wi hx hb hr hlocks hAe (rfl) (hP) hS d_G_person_50
      · have c29 := c29
        have nc29 : ¬ np < 4 := fun h => c29 ((nI_ltI (a := np) (b := 4) (by omega) (by omega)).mpr h)
        exact False.elim (by omega)
    · have c8 := c8
      have mc8 : 256 ≤ x := Int32.not_lt.mp c8
      exact False.elim (c8 h2)
set_option maxHeartbeats 4000000 in
set_option maxRecDepth 100000 in
theorem x_G_person1 (l : Launch) (E : gp_E) (I : Nat → Int32) (F : Nat → Nat → Int32) (x : Int32) (hlt : l.stackTraces = false) (h : ¬ (¬ x < 0 ∧ x < 256)) : gx_CT l y_G_person b_G_person 2 (some .int) 6 E (gp_wG E I F) [.ref (E.2.2.2 0), .int x] "java/lang/IllegalArgumentException" := by
  refine gx_ofT (by decide) (Nat.le_of_ble_eq_true rfl) ?_
  intro xp xe xs xm below meth xc ls hx hb hr hts hown hlocks hml hem hP hK hSt hl
  have hown : xs.vm.findClass "GuidePlans" = some xm.cls := hown
  have hl : lv_has ls 2 [(0, .ref (E.2.2.2 0)), (1, .int x)] := hl
  refine lv_iload_n hx hb d_G_person_0 rfl (lv_at hl 1 rfl) ?_
  refine lv_if_lt (tgt := 11) hx hb d_G_person_1 (by decide) (fun c1 => ?_) (fun c1 => ?_)
  · have c1 := c1
    have mc1 : ¬ 0 ≤ x := Int32.not_le.mpr c1
    exact gx_thr (X := "java/lang/IllegalArgumentException") (ik := 44) (is := 46) (ic := 48) (tx := "skills are not 0 .. 255") hx hb hlt hown (by decide) (hts _ w2_15) (hts _ w1_8) hSt gx_hat1 (by decide) (hl.1.trans hml.symm) d_G_person_11 d_G_person_14 d_G_person_15 d_G_person_17 d_G_person_20 hem (Nat.le_of_ble_eq_true rfl) (Nat.le_of_ble_eq_true rfl) (Nat.le_of_ble_eq_true rfl) (Nat.le_of_ble_eq_true rfl) hlocks
  · have c1 := c1
    have mc1 : 0 ≤ x := Int32.not_lt.mp c1
    refine lv_iload_n hx hb d_G_person_4 rfl (lv_at hl 1 rfl) ?_
    refine lv_sipush (v := 256) hx hb d_G_person_5 (by decide) ?_
    refine lv_icmp_lt (tgt := 21) hx hb d_G_person_8 (by decide) (fun c8 => ?_) (fun c8 => ?_)
    · have c8 := c8
      have mc8 : ¬ 256 ≤ x := Int32.not_le.mpr c8
      exact (h ⟨c1, c8⟩).elim
    · have c8 := c8
      have mc8 : 256 ≤ x := Int32.not_lt.mp c8
      exact gx_thr (X := "java/lang/IllegalArgumentException") (ik := 44) (is := 46) (ic := 48) (tx := "skills are not 0 .. 255") hx hb hlt hown (by decide) (hts _ w2_15) (hts _ w1_8) hSt gx_hat1 (by decide) (hl.1.trans hml.symm) d_G_person_11 d_G_person_14 d_G_person_15 d_G_person_17 d_G_person_20 hem (Nat.le_of_ble_eq_true rfl) (Nat.le_of_ble_eq_true rfl) (Nat.le_of_ble_eq_true rfl) (Nat.le_of_ble_eq_true rfl) hlocks
set_option maxHeartbeats 4000000 in
set_option maxRecDepth 100000 in
theorem x_G_person2 (l : Launch) (E : gp_E) (I : Nat → Int32) (F : Nat → Nat → Int32) (x : Int32) (hlt : l.stackTraces = false) (hp4 : I 4 = nI 4) (h1 : ¬ x < 0) (h2 : x < 256) : gx_CT l y_G_person b_G_person 2 (some .int) 6 E (gp_wG E I F) [.ref (E.2.2.2 0), .int x] "java/lang/IllegalStateException" := by
  refine gx_ofT (by decide) (Nat.le_of_ble_eq_true rfl) ?_
  intro xp xe xs xm below meth xc ls hx hb hr hts hown hlocks hml hem hP hK hSt hl
  have hown : xs.vm.findClass "GuidePlans" = some xm.cls := hown
  have hl : lv_has ls 2 [(0, .ref (E.2.2.2 0)), (1, .int x)] := hl
  refine lv_iload_n hx hb d_G_person_0 rfl (lv_at hl 1 rfl) ?_
  refine lv_if_lt (tgt := 11) hx hb d_G_person_1 (by decide) (fun c1 => ?_) (fun c1 => ?_)
  · have c1 := c1
    have mc1 : ¬ 0 ≤ x := Int32.not_le.mpr c1
    exact False.elim (h1 c1)
  · have c1 := c1
    have mc1 : 0 ≤ x := Int32.not_lt.mp c1
    refine lv_iload_n hx hb d_G_person_4 rfl (lv_at hl 1 rfl) ?_
    refine lv_sipush (v := 256) hx hb d_G_person_5 (by decide) ?_
    refine lv_icmp_lt (tgt := 21) hx hb d_G_person_8 (by decide) (fun c8 => ?_) (fun c8 => ?_)
    · have c8 := c8
      have mc8 : ¬ 256 ≤ x := Int32.not_le.mpr c8
      refine lv_aload_n hx hb d_G_person_21 rfl (lv_at hl 0 rfl) ?_
      refine va_get (D := E.1) (cl := gp_cl) (ci := 0) (v := .ref (E.2.2.2 1)) (C := R_G) (T := T_G) (N := 8) hx hb hts i_G hown hK hP 0 rfl rfl 0 (by decide) (hts _ w1_117) (fun _ h9 => h9) rfl d_G_person_22 ?_
      refine va_get (D := E.1) (cl := gp_cl) (ci := 1) (v := .int (nI 4)) (C := R_D) (T := T_D) (N := 13) hx hb hts i_D hown hK hP 1 rfl rfl 8 (by decide) (hts _ w1_40) (fun _ h9 => h9) (congrArg (fun z => some (Value.int z)) hp4) d_G_person_25 ?_
      refine lv_iconst (v := 4) hx hb d_G_person_28 (by decide) ?_
      refine lv_icmp_lt (tgt := 42) hx hb d_G_person_29 (by decide) (fun c29 => ?_) (fun c29 => ?_)
      · have c29 := c29
        have nc29 : 4 < 4 := (nI_ltI (a := 4) (b := 4) (by omega) (by omega)).mp c29
        exact False.elim (by omega)
      · have c29 := c29
        have nc29 : ¬ 4 < 4 := fun h => c29 ((nI_ltI (a := 4) (b := 4) (by omega) (by omega)).mpr h)
        exact gx_thr (X := "java/lang/IllegalStateException") (ik := 54) (is := 56) (ic := 58) (tx := "there are four persons") hx hb hlt hown (by decide) (hts _ w2_83) (hts _ w1_9) hSt gx_hat2 (by decide) (hl.1.trans hml.symm) d_G_person_32 d_G_person_35 d_G_person_36 d_G_person_38 d_G_person_41 hem (Nat.le_of_ble_eq_true rfl) (Nat.le_of_ble_eq_true rfl) (Nat.le_of_ble_eq_true rfl) (Nat.le_of_ble_eq_true rfl) hlocks
    · have c8 := c8
      have mc8 : 256 ≤ x := Int32.not_lt.mp c8
      exact False.elim (c8 h2)
set_option maxHeartbeats 4000000 in
set_option maxRecDepth 100000 in
theorem c_G_off (l : Launch) (E : gp_E) (I : Nat → Int32) (F : Nat → Nat → Int32) (ns : Nat) (x y z : Int32) (h : gp_in x (I 4) = true) (hN : I 5 = nI ns) (hns : ns < 20) (s1 : ¬ y < 0) (s2 : ¬ z ≤ y) (s3 : z ≤ 96) : gp_CW l y_G_off b_G_off 4 (some .int) 3 E (gp_wG E I F) (gp_wG E (upd I 5 (nI (ns + 1))) (gp_uF (gp_uF (gp_uF F 1 (upd (F 1) ns x)) 2 (upd (F 2) ns y)) 3 (upd (F 3) ns z))) [.ref (E.2.2.2 0), .int x, .int y, .int z] (some (.int (nI (ns + 1)))) := by
  refine gp_ofW (by decide) (Nat.le_of_ble_eq_true rfl) ?_
  intro xp xe xs xm below meth xc ls A hx hb hr hts hown hlocks hml hP hK hD hA hAe hl
  have hS : va_S A xs.heap xs.heap [] := va_S.rf
  have hown : xs.vm.findClass "GuidePlans" = some xm.cls := hown
  have hl : lv_has ls 4 [(0, .ref (E.2.2.2 0)), (1, .int x), (2, .int y), (3, .int z)] := hl
  refine lv_aload_n hx hb d_G_off_0 rfl (lv_at hl 0 rfl) ?_
  refine lv_iload_n hx hb d_G_off_1 rfl (lv_at hl 1 rfl) ?_
  refine gp_cV0 (q0 := 0) (ci := 0) (As := [.int x]) (rest := []) ⟨hx, hb, hml, hown, hts⟩ (c_G_requirePerson l E I F x h) (k_G_63 hts ⟨by decide, by decide⟩ rfl rfl) hK hP rfl rfl rfl hl.1 rfl (Nat.le_of_ble_eq_true rfl) d_G_off_2 ⟨Nat.le_of_ble_eq_true rfl, Nat.le_of_ble_eq_true rfl⟩ ?_
  refine lv_aload_n hx hb d_G_off_5 rfl (lv_at hl 0 rfl) ?_
  refine lv_iload_n hx hb d_G_off_6 rfl (lv_at hl 2 rfl) ?_
  refine lv_iload_n hx hb d_G_off_7 rfl (lv_at hl 3 rfl) ?_
  refine gp_cV0 (q0 := 0) (ci := 0) (As := [.int y, .int z]) (rest := []) ⟨hx, hb, hml, hown, hts⟩ (c_G_requireSpan l E I F y z s1 s2 s3) (k_G_67 hts ⟨by decide, by decide⟩ rfl rfl) hK hP rfl rfl rfl hl.1 rfl (Nat.le_of_ble_eq_true rfl) d_G_off_8 ⟨Nat.le_of_ble_eq_true rfl, Nat.le_of_ble_eq_true rfl⟩ ?_
  refine lv_aload_n hx hb d_G_off_11 rfl (lv_at hl 0 rfl) ?_
  refine gp_cV0 (q0 := 0) (ci := 0) (As := []) (rest := []) ⟨hx, hb, hml, hown, hts⟩ (c_G_requireRoomForSpan l E I F ns hN hns) (k_G_71 hts ⟨by decide, by decide⟩ rfl rfl) hK hP rfl rfl rfl hl.1 rfl (Nat.le_of_ble_eq_true rfl) d_G_off_12 ⟨Nat.le_of_ble_eq_true rfl, Nat.le_of_ble_eq_true rfl⟩ ?_
  refine lv_aload_n hx hb d_G_off_15 rfl (lv_at hl 0 rfl) ?_
  refine va_get (D := E.1) (cl := gp_cl) (ci := 0) (v := .ref (E.2.2.2 1)) (C := R_G) (T := T_G) (N := 8) hx hb hts i_G hown hK hP 0 rfl rfl 0 (by decide) (hts _ w1_117) (fun _ h9 => h9) rfl d_G_off_16 ?_
  refine lv_iload_n hx hb d_G_off_19 rfl (lv_at hl 1 rfl) ?_
  refine lv_iload_n hx hb d_G_off_20 rfl (lv_at hl 2 rfl) ?_
  refine lv_iload_n hx hb d_G_off_21 rfl (lv_at hl 3 rfl) ?_
  refine gp_cW (q0 := 1) (ci := 1) (As := [.int x, .int y, .int z]) (rest := []) ⟨hx, hb, hml, hown, hts⟩ (c_D_addSpan l E I F ns x y z hN hns) (k_G_74 hts ⟨by decide, by decide⟩ rfl rfl) hK hP hD hS hA rfl rfl rfl rfl hl.1 rfl (Nat.le_of_ble_eq_true rfl) d_G_off_22 ⟨Nat.le_of_ble_eq_true rfl, Nat.le_of_ble_eq_true rfl⟩ (fun H locs hP hD hS => ?_)
  have hP : va_P E.1 gp_cl (gp_wG E (upd I 5 (nI (ns + 1))) (gp_uF (gp_uF (gp_uF F 1 (upd (F 1) ns x)) 2 (upd (F 2) ns y)) 3 (upd (F 3) ns z))) H := hP
  have hD : va_D A (gp_wG E (upd I 5 (nI (ns + 1))) (gp_uF (gp_uF (gp_uF F 1 (upd (F 1) ns x)) 2 (upd (F 2) ns y)) 3 (upd (F 3) ns z))) := hD
  refine lv_aload_n hx hb d_G_off_25 rfl (lv_at hl 0 rfl) ?_
  refine va_get (D := E.1) (cl := gp_cl) (ci := 0) (v := .ref (E.2.2.2 1)) (C := R_G) (T := T_G) (N := 8) hx hb hts i_G hown hK hP 0 rfl rfl 0 (by decide) (hts _ w1_117) (fun _ h9 => h9) rfl d_G_off_26 ?_
  refine va_get (D := E.1) (cl := gp_cl) (ci := 1) (v := .int (nI (ns + 1))) (C := R_D) (T := T_D) (N := 13) hx hb hts i_D hown hK hP 1 rfl rfl 9 (by decide) (hts _ w1_43) (fun _ h9 => h9) rfl d_G_off_29 ?_
  exact gp_wi hx hb hr hlocks hAe (rfl) (hP) hS d_G_off_32
set_option maxHeartbeats 4000000 in
set_option maxRecDepth 100000 in
theorem x_G_off1 (l : Launch) (E : gp_E) (I : Nat → Int32) (F : Nat → Nat → Int32) (x y z : Int32) (hlt : l.stackTraces = false) (h : gp_in x (I 4) = false) : gx_CT l y_G_off b_G_off 4 (some .int) 7 E (gp_wG E I F) [.ref (E.2.2.2 0), .int x, .int y, .int z] "java/util/NoSuchElementException" := by
  refine gx_ofT (by decide) (Nat.le_of_ble_eq_true rfl) ?_
  intro xp xe xs xm below meth xc ls hx hb hr hts hown hlocks hml hem hP hK hSt hl
  have hown : xs.vm.findClass "GuidePlans" = some xm.cls := hown
  have hl : lv_has ls 4 [(0, .ref (E.2.2.2 0)), (1, .int x), (2, .int y), (3, .int z)] := hl
  refine lv_aload_n hx hb d_G_off_0 rfl (lv_at hl 0 rfl) ?_
  refine lv_iload_n hx hb d_G_off_1 rfl (lv_at hl 1 rfl) ?_
  exact gx_cV (q0 := 0) (ci := 0) (As := [.int x]) (rest := []) ⟨hx, hb, hml, hown, hts⟩ (x_G_requirePerson l E I F x hlt h) (k_G_63 hts ⟨by decide, by decide⟩ rfl rfl) hK hP hSt rfl rfl rfl hl.1 rfl (Nat.le_of_ble_eq_true rfl) d_G_off_2 ⟨Nat.le_of_ble_eq_true rfl, Nat.le_of_ble_eq_true rfl⟩ hem hlocks
set_option maxHeartbeats 4000000 in
set_option maxRecDepth 100000 in
theorem x_G_off2 (l : Launch) (E : gp_E) (I : Nat → Int32) (F : Nat → Nat → Int32) (x y z : Int32) (hlt : l.stackTraces = false) (h : gp_in x (I 4) = true) (hs : ¬ (¬ y < 0 ∧ ¬ z ≤ y ∧ z ≤ 96)) : gx_CT l y_G_off b_G_off 4 (some .int) 7 E (gp_wG E I F) [.ref (E.2.2.2 0), .int x, .int y, .int z] "java/lang/IllegalArgumentException" := by
  refine gx_ofT (by decide) (Nat.le_of_ble_eq_true rfl) ?_
  intro xp xe xs xm below meth xc ls hx hb hr hts hown hlocks hml hem hP hK hSt hl
  have hown : xs.vm.findClass "GuidePlans" = some xm.cls := hown
  have hl : lv_has ls 4 [(0, .ref (E.2.2.2 0)), (1, .int x), (2, .int y), (3, .int z)] := hl
  refine lv_aload_n hx hb d_G_off_0 rfl (lv_at hl 0 rfl) ?_
  refine lv_iload_n hx hb d_G_off_1 rfl (lv_at hl 1 rfl) ?_
  refine gp_cV0 (q0 := 0) (ci := 0) (As := [.int x]) (rest := []) ⟨hx, hb, hml, hown, hts⟩ (c_G_requirePerson l E I F x h) (k_G_63 hts ⟨by decide, by decide⟩ rfl rfl) hK hP rfl rfl rfl hl.1 rfl (Nat.le_of_ble_eq_true rfl) d_G_off_2 ⟨Nat.le_of_ble_eq_true rfl, Nat.le_of_ble_eq_true rfl⟩ ?_
  refine lv_aload_n hx hb d_G_off_5 rfl (lv_at hl 0 rfl) ?_
  refine lv_iload_n hx hb d_G_off_6 rfl (lv_at hl 2 rfl) ?_
  refine lv_iload_n hx hb d_G_off_7 rfl (lv_at hl 3 rfl) ?_
  exact gx_cV (q0 := 0) (ci := 0) (As := [.int y, .int z]) (rest := []) ⟨hx, hb, hml, hown, hts⟩ (x_G_requireSpan l E I F y z hlt hs) (k_G_67 hts ⟨by decide, by decide⟩ rfl rfl) hK hP hSt rfl rfl rfl hl.1 rfl (Nat.le_of_ble_eq_true rfl) d_G_off_8 ⟨Nat.le_of_ble_eq_true rfl, Nat.le_of_ble_eq_true rfl⟩ hem hlocks
set_option maxHeartbeats 4000000 in
set_option maxRecDepth 100000 in
theorem x_G_off3 (l : Launch) (E : gp_E) (I : Nat → Int32) (F : Nat → Nat → Int32) (x y z : Int32) (hlt : l.stackTraces = false) (h : gp_in x (I 4) = true) (s1 : ¬ y < 0) (s2 : ¬ z ≤ y) (s3 : z ≤ 96) (hN : I 5 = nI 20) : gx_CT l y_G_off b_G_off 4 (some .int) 7 E (gp_wG E I F) [.ref (E.2.2.2 0), .int x, .int y, .int z] "java/lang/IllegalStateException" := by
  refine gx_ofT (by decide) (Nat.le_of_ble_eq_true rfl) ?_
  intro xp xe xs xm below meth xc ls hx hb hr hts hown hlocks hml hem hP hK hSt hl
  have hown : xs.vm.findClass "GuidePlans" = some xm.cls := hown
  have hl : lv_has ls 4 [(0, .ref (E.2.2.2 0)), (1, .int x), (2, .int y), (3, .int z)] := hl
  refine lv_aload_n hx hb d_G_off_0 rfl (lv_at hl 0 rfl) ?_
  refine lv_iload_n hx hb d_G_off_1 rfl (lv_at hl 1 rfl) ?_
  refine gp_cV0 (q0 := 0) (ci := 0) (As := [.int x]) (rest := []) ⟨hx, hb, hml, hown, hts⟩ (c_G_requirePerson l E I F x h) (k_G_63 hts ⟨by decide, by decide⟩ rfl rfl) hK hP rfl rfl rfl hl.1 rfl (Nat.le_of_ble_eq_true rfl) d_G_off_2 ⟨Nat.le_of_ble_eq_true rfl, Nat.le_of_ble_eq_true rfl⟩ ?_
  refine lv_aload_n hx hb d_G_off_5 rfl (lv_at hl 0 rfl) ?_
  refine lv_iload_n hx hb d_G_off_6 rfl (lv_at hl 2 rfl) ?_
  refine lv_iload_n hx hb d_G_off_7 rfl (lv_at hl 3 rfl) ?_
  refine gp_cV0 (q0 := 0) (ci := 0) (As := [.int y, .int z]) (rest := []) ⟨hx, hb, hml, hown, hts⟩ (c_G_requireSpan l E I F y z s1 s2 s3) (k_G_67 hts ⟨by decide, by decide⟩ rfl rfl) hK hP rfl rfl rfl hl.1 rfl (Nat.le_of_ble_eq_true rfl) d_G_off_8 ⟨Nat.le_of_ble_eq_true rfl, Nat.le_of_ble_eq_true rfl⟩ ?_
  refine lv_aload_n hx hb d_G_off_11 rfl (lv_at hl 0 rfl) ?_
  exact gx_cV (q0 := 0) (ci := 0) (As := []) (rest := []) ⟨hx, hb, hml, hown, hts⟩ (x_G_requireRoomForSpan l E I F hlt hN) (k_G_71 hts ⟨by decide, by decide⟩ rfl rfl) hK hP hSt rfl rfl rfl hl.1 rfl (Nat.le_of_ble_eq_true rfl) d_G_off_12 ⟨Nat.le_of_ble_eq_true rfl, Nat.le_of_ble_eq_true rfl⟩ hem hlocks
set_option maxHeartbeats 4000000 in
set_option maxRecDepth 100000 in
theorem c_G_task (l : Launch) (E : gp_E) (I : Nat → Int32) (F : Nat → Nat → Int32) (nt : Nat) (x y z b : Int32) (hT : I 6 = nI nt) (hnt : nt < 6) (k1 : ¬ x < 0) (k2 : x < 8) (s1 : ¬ y < 0) (s2 : ¬ z ≤ y) (s3 : z ≤ 96) (hb1 : vp_nar .boolean b = b) : gp_CW l y_G_task b_G_task 5 (some .int) 3 E (gp_wG E I F) (gp_wG E (upd I 6 (nI (nt + 1))) (gp_uF (gp_uF (gp_uF (gp_uF (gp_uF F 14 (upd (F 14) nt (-1))) 4 (upd (F 4) nt x)) 5 (upd (F 5) nt y)) 6 (upd (F 6) nt z)) 7 (upd (F 7) nt b))) [.ref (E.2.2.2 0), .int x, .int y, .int z, .int b] (some (.int (nI nt))) := by
  refine gp_ofW (by decide) (Nat.le_of_ble_eq_true rfl) ?_
  intro xp xe xs xm below meth xc ls A hx hb hr hts hown hlocks hml hP hK hD hA hAe hl
  have hS : va_S A xs.heap xs.heap [] := va_S.rf
  have hown : xs.vm.findClass "GuidePlans" = some xm.cls := hown
  have hl : lv_has ls 5 [(0, .ref (E.2.2.2 0)), (1, .int x), (2, .int y), (3, .int z), (4, .int b)] := hl
  refine lv_iload_n hx hb d_G_task_0 rfl (lv_at hl 1 rfl) ?_
  refine lv_if_lt (tgt := 10) hx hb d_G_task_1 (by decide) (fun c1 => ?_) (fun c1 => ?_)
  · have c1 := c1
    have mc1 : ¬ 0 ≤ x := Int32.not_le.mpr c1
    exact False.elim (k1 c1)
  · have c1 := c1
    have mc1 : 0 ≤ x := Int32.not_lt.mp c1
    refine lv_iload_n hx hb d_G_task_4 rfl (lv_at hl 1 rfl) ?_
    refine lv_bipush (v := 8) hx hb d_G_task_5 (by decide) ?_
    refine lv_icmp_lt (tgt := 20) hx hb d_G_task_7 (by decide) (fun c7 => ?_) (fun c7 => ?_)
    · have c7 := c7
      have mc7 : ¬ 8 ≤ x := Int32.not_le.mpr c7
      refine lv_aload_n hx hb d_G_task_20 rfl (lv_at hl 0 rfl) ?_
      refine lv_iload_n hx hb d_G_task_21 rfl (lv_at hl 2 rfl) ?_
      refine lv_iload_n hx hb d_G_task_22 rfl (lv_at hl 3 rfl) ?_
      refine gp_cV0 (q0 := 0) (ci := 0) (As := [.int y, .int z]) (rest := []) ⟨hx, hb, hml, hown, hts⟩ (c_G_requireSpan l E I F y z s1 s2 s3) (k_G_67 hts ⟨by decide, by decide⟩ rfl rfl) hK hP rfl rfl rfl hl.1 rfl (Nat.le_of_ble_eq_true rfl) d_G_task_23 ⟨Nat.le_of_ble_eq_true rfl, Nat.le_of_ble_eq_true rfl⟩ ?_
      refine lv_aload_n hx hb d_G_task_26 rfl (lv_at hl 0 rfl) ?_
      refine va_get (D := E.1) (cl := gp_cl) (ci := 0) (v := .ref (E.2.2.2 1)) (C := R_G) (T := T_G) (N := 8) hx hb hts i_G hown hK hP 0 rfl rfl 0 (by decide) (hts _ w1_117) (fun _ h9 => h9) rfl d_G_task_27 ?_
      refine va_get (D := E.1) (cl := gp_cl) (ci := 1) (v := .int (nI nt)) (C := R_D) (T := T_D) (N := 13) hx hb hts i_D hown hK hP 1 rfl rfl 10 (by decide) (hts _ w1_46) (fun _ h9 => h9) (congrArg (fun z => some (Value.int z)) hT) d_G_task_30 ?_
      refine lv_bipush (v := 6) hx hb d_G_task_33 (by decide) ?_
      refine lv_icmp_lt (tgt := 48) hx hb d_G_task_35 (by decide) (fun c35 => ?_) (fun c35 => ?_)
      · have c35 := c35
        have nc35 : nt < 6 := (nI_ltI (a := nt) (b := 6) (by omega) (by omega)).mp c35
        refine lv_aload_n hx hb d_G_task_48 rfl (lv_at hl 0 rfl) ?_
        refine va_get (D := E.1) (cl := gp_cl) (ci := 0) (v := .ref (E.2.2.2 17)) (C := R_G) (T := T_G) (N := 8) hx hb hts i_G hown hK hP 0 rfl rfl 2 (by decide) (hts _ w1_119) (fun _ h9 => h9) rfl d_G_task_49 ?_
        refine lv_aload_n hx hb d_G_task_52 rfl (lv_at hl 0 rfl) ?_
        refine va_get (D := E.1) (cl := gp_cl) (ci := 0) (v := .ref (E.2.2.2 1)) (C := R_G) (T := T_G) (N := 8) hx hb hts i_G hown hK hP 0 rfl rfl 0 (by decide) (hts _ w1_117) (fun _ h9 => h9) rfl d_G_task_53 ?_
        refine va_get (D := E.1) (cl := gp_cl) (ci := 1) (v := .int (nI nt)) (C := R_D) (T := T_D) (N := 13) hx hb hts i_D hown hK hP 1 rfl rfl 10 (by decide) (hts _ w1_46) (fun _ h9 => h9) (congrArg (fun z => some (Value.int z)) hT) d_G_task_56 ?_
        refine lv_iconst (v := (-1)) hx hb d_G_task_59 (by decide) ?_
        refine gp_ast (f := (F 14)) (n := 6) hx hb hK hP hD hS 17 rfl (nt) rfl (by omega) (by decide) d_G_task_60 (fun H locs hP hD hS => ?_)
        have hP : va_P E.1 gp_cl (gp_wG E I (gp_uF F 14 (upd (F 14) (nt) (-1)))) H := hP
        have hD : va_D A (gp_wG E I (gp_uF F 14 (upd (F 14) (nt) (-1)))) := hD
        refine lv_aload_n hx hb d_G_task_61 rfl (lv_at hl 0 rfl) ?_
        refine va_get (D := E.1) (cl := gp_cl) (ci := 0) (v := .ref (E.2.2.2 1)) (C := R_G) (T := T_G) (N := 8) hx hb hts i_G hown hK hP 0 rfl rfl 0 (by decide) (hts _ w1_117) (fun _ h9 => h9) rfl d_G_task_62 ?_
        refine lv_iload_n hx hb d_G_task_65 rfl (lv_at hl 1 rfl) ?_
        refine lv_iload_n hx hb d_G_task_66 rfl (lv_at hl 2 rfl) ?_
        refine lv_iload_n hx hb d_G_task_67 rfl (lv_at hl 3 rfl) ?_
        refine lv_iload hx hb d_G_task_68 (lv_at hl 4 rfl) ?_
        refine gp_cW (q0 := 1) (ci := 1) (As := [.int x, .int y, .int z, .int b]) (rest := []) ⟨hx, hb, hml, hown, hts⟩ (c_D_addTask l E I (gp_uF F 14 (upd (F 14) (nt) (-1))) nt x y z b hT hnt hb1) (k_G_91 hts ⟨by decide, by decide⟩ rfl rfl) hK hP hD hS hA rfl rfl rfl rfl hl.1 rfl (Nat.le_of_ble_eq_true rfl) d_G_task_70 ⟨Nat.le_of_ble_eq_true rfl, Nat.le_of_ble_eq_true rfl⟩ (fun H locs hP hD hS => ?_)
        have hP : va_P E.1 gp_cl (gp_wG E (upd I 6 (nI (nt + 1))) (gp_uF (gp_uF (gp_uF (gp_uF (gp_uF F 14 (upd (F 14) nt (-1))) 4 (upd (F 4) nt x)) 5 (upd (F 5) nt y)) 6 (upd (F 6) nt z)) 7 (upd (F 7) nt b))) H := hP
        have hD : va_D A (gp_wG E (upd I 6 (nI (nt + 1))) (gp_uF (gp_uF (gp_uF (gp_uF (gp_uF F 14 (upd (F 14) nt (-1))) 4 (upd (F 4) nt x)) 5 (upd (F 5) nt y)) 6 (upd (F 6) nt z)) 7 (upd (F 7) nt b))) := hD
        refine W.eq (g2 := F0 xm 73 ls [.int (nI nt)]) rfl ?_
        exact gp_wi hx hb hr hlocks hAe (rfl) (hP) hS d_G_task_73
      · have c35 := c35
        have nc35 : ¬ nt < 6 := fun h => c35 ((nI_ltI (a := nt) (b := 6) (by omega) (by omega)).mpr h)
        exact False.elim (by omega)
    · have c7 := c7
      have mc7 : 8 ≤ x := Int32.not_lt.mp c7
      exact False.elim (c7 k2)
set_option maxHeartbeats 4000000 in
set_option maxRecDepth 100000 in
theorem x_G_task1 (l : Launch) (E : gp_E) (I : Nat → Int32) (F : Nat → Nat → Int32) (x y z b : Int32) (hlt : l.stackTraces = false) (h : ¬ (¬ x < 0 ∧ x < 8)) : gx_CT l y_G_task b_G_task 5 (some .int) 6 E (gp_wG E I F) [.ref (E.2.2.2 0), .int x, .int y, .int z, .int b] "java/util/NoSuchElementException" := by
  refine gx_ofT (by decide) (Nat.le_of_ble_eq_true rfl) ?_
  intro xp xe xs xm below meth xc ls hx hb hr hts hown hlocks hml hem hP hK hSt hl
  have hown : xs.vm.findClass "GuidePlans" = some xm.cls := hown
  have hl : lv_has ls 5 [(0, .ref (E.2.2.2 0)), (1, .int x), (2, .int y), (3, .int z), (4, .int b)] := hl
  refine lv_iload_n hx hb d_G_task_0 rfl (lv_at hl 1 rfl) ?_
  refine lv_if_lt (tgt := 10) hx hb d_G_task_1 (by decide) (fun c1 => ?_) (fun c1 => ?_)
  · have c1 := c1
    have mc1 : ¬ 0 ≤ x := Int32.not_le.mpr c1
    exact gx_thr (X := "java/util/NoSuchElementException") (ik := 81) (is := 83) (ic := 85) (tx := "no such skill") hx hb hlt hown (by decide) (hts _ w2_116) (hts _ w1_10) hSt gx_hat3 (by decide) (hl.1.trans hml.symm) d_G_task_10 d_G_task_13 d_G_task_14 d_G_task_16 d_G_task_19 hem (Nat.le_of_ble_eq_true rfl) (Nat.le_of_ble_eq_true rfl) (Nat.le_of_ble_eq_true rfl) (Nat.le_of_ble_eq_true rfl) hlocks
  · have c1 := c1
    have mc1 : 0 ≤ x := Int32.not_lt.mp c1
    refine lv_iload_n hx hb d_G_task_4 rfl (lv_at hl 1 rfl) ?_
    refine lv_bipush (v := 8) hx hb d_G_task_5 (by decide) ?_
    refine lv_icmp_lt (tgt := 20) hx hb d_G_task_7 (by decide) (fun c7 => ?_) (fun c7 => ?_)
    · have c7 := c7
      have mc7 : ¬ 8 ≤ x := Int32.not_le.mpr c7
      exact (h ⟨c1, c7⟩).elim
    · have c7 := c7
      have mc7 : 8 ≤ x := Int32.not_lt.mp c7
      exact gx_thr (X := "java/util/NoSuchElementException") (ik := 81) (is := 83) (ic := 85) (tx := "no such skill") hx hb hlt hown (by decide) (hts _ w2_116) (hts _ w1_10) hSt gx_hat3 (by decide) (hl.1.trans hml.symm) d_G_task_10 d_G_task_13 d_G_task_14 d_G_task_16 d_G_task_19 hem (Nat.le_of_ble_eq_true rfl) (Nat.le_of_ble_eq_true rfl) (Nat.le_of_ble_eq_true rfl) (Nat.le_of_ble_eq_true rfl) hlocks
set_option maxHeartbeats 4000000 in
set_option maxRecDepth 100000 in
theorem x_G_task2 (l : Launch) (E : gp_E) (I : Nat → Int32) (F : Nat → Nat → Int32) (x y z b : Int32) (hlt : l.stackTraces = false) (k1 : ¬ x < 0) (k2 : x < 8) (hs : ¬ (¬ y < 0 ∧ ¬ z ≤ y ∧ z ≤ 96)) : gx_CT l y_G_task b_G_task 5 (some .int) 7 E (gp_wG E I F) [.ref (E.2.2.2 0), .int x, .int y, .int z, .int b] "java/lang/IllegalArgumentException" := by
  refine gx_ofT (by decide) (Nat.le_of_ble_eq_true rfl) ?_
  intro xp xe xs xm below meth xc ls hx hb hr hts hown hlocks hml hem hP hK hSt hl
  have hown : xs.vm.findClass "GuidePlans" = some xm.cls := hown
  have hl : lv_has ls 5 [(0, .ref (E.2.2.2 0)), (1, .int x), (2, .int y), (3, .int z), (4, .int b)] := hl
  refine lv_iload_n hx hb d_G_task_0 rfl (lv_at hl 1 rfl) ?_
  refine lv_if_lt (tgt := 10) hx hb d_G_task_1 (by decide) (fun c1 => ?_) (fun c1 => ?_)
  · have c1 := c1
    have mc1 : ¬ 0 ≤ x := Int32.not_le.mpr c1
    exact False.elim (k1 c1)
  · have c1 := c1
    have mc1 : 0 ≤ x := Int32.not_lt.mp c1
    refine lv_iload_n hx hb d_G_task_4 rfl (lv_at hl 1 rfl) ?_
    refine lv_bipush (v := 8) hx hb d_G_task_5 (by decide) ?_
    refine lv_icmp_lt (tgt := 20) hx hb d_G_task_7 (by decide) (fun c7 => ?_) (fun c7 => ?_)
    · have c7 := c7
      have mc7 : ¬ 8 ≤ x := Int32.not_le.mpr c7
      refine lv_aload_n hx hb d_G_task_20 rfl (lv_at hl 0 rfl) ?_
      refine lv_iload_n hx hb d_G_task_21 rfl (lv_at hl 2 rfl) ?_
      refine lv_iload_n hx hb d_G_task_22 rfl (lv_at hl 3 rfl) ?_
      exact gx_cV (q0 := 0) (ci := 0) (As := [.int y, .int z]) (rest := []) ⟨hx, hb, hml, hown, hts⟩ (x_G_requireSpan l E I F y z hlt hs) (k_G_67 hts ⟨by decide, by decide⟩ rfl rfl) hK hP hSt rfl rfl rfl hl.1 rfl (Nat.le_of_ble_eq_true rfl) d_G_task_23 ⟨Nat.le_of_ble_eq_true rfl, Nat.le_of_ble_eq_true rfl⟩ hem hlocks
    · have c7 := c7
      have mc7 : 8 ≤ x := Int32.not_lt.mp c7
      exact False.elim (c7 k2)
set_option maxHeartbeats 4000000 in
set_option maxRecDepth 100000 in
theorem x_G_task3 (l : Launch) (E : gp_E) (I : Nat → Int32) (F : Nat → Nat → Int32) (x y z b : Int32) (hlt : l.stackTraces = false) (k1 : ¬ x < 0) (k2 : x < 8) (s1 : ¬ y < 0) (s2 : ¬ z ≤ y) (s3 : z ≤ 96) (hT : I 6 = nI 6) : gx_CT l y_G_task b_G_task 5 (some .int) 7 E (gp_wG E I F) [.ref (E.2.2.2 0), .int x, .int y, .int z, .int b] "java/lang/IllegalStateException" := by
  refine gx_ofT (by decide) (Nat.le_of_ble_eq_true rfl) ?_
  intro xp xe xs xm below meth xc ls hx hb hr hts hown hlocks hml hem hP hK hSt hl
  have hown : xs.vm.findClass "GuidePlans" = some xm.cls := hown
  have hl : lv_has ls 5 [(0, .ref (E.2.2.2 0)), (1, .int x), (2, .int y), (3, .int z), (4, .int b)] := hl
  refine lv_iload_n hx hb d_G_task_0 rfl (lv_at hl 1 rfl) ?_
  refine lv_if_lt (tgt := 10) hx hb d_G_task_1 (by decide) (fun c1 => ?_) (fun c1 => ?_)
  · have c1 := c1
    have mc1 : ¬ 0 ≤ x := Int32.not_le.mpr c1
    exact False.elim (k1 c1)
  · have c1 := c1
    have mc1 : 0 ≤ x := Int32.not_lt.mp c1
    refine lv_iload_n hx hb d_G_task_4 rfl (lv_at hl 1 rfl) ?_
    refine lv_bipush (v := 8) hx hb d_G_task_5 (by decide) ?_
    refine lv_icmp_lt (tgt := 20) hx hb d_G_task_7 (by decide) (fun c7 => ?_) (fun c7 => ?_)
    · have c7 := c7
      have mc7 : ¬ 8 ≤ x := Int32.not_le.mpr c7
      refine lv_aload_n hx hb d_G_task_20 rfl (lv_at hl 0 rfl) ?_
      refine lv_iload_n hx hb d_G_task_21 rfl (lv_at hl 2 rfl) ?_
      refine lv_iload_n hx hb d_G_task_22 rfl (lv_at hl 3 rfl) ?_
      refine gp_cV0 (q0 := 0) (ci := 0) (As := [.int y, .int z]) (rest := []) ⟨hx, hb, hml, hown, hts⟩ (c_G_requireSpan l E I F y z s1 s2 s3) (k_G_67 hts ⟨by decide, by decide⟩ rfl rfl) hK hP rfl rfl rfl hl.1 rfl (Nat.le_of_ble_eq_true rfl) d_G_task_23 ⟨Nat.le_of_ble_eq_true rfl, Nat.le_of_ble_eq_true rfl⟩ ?_
      refine lv_aload_n hx hb d_G_task_26 rfl (lv_at hl 0 rfl) ?_
      refine va_get (D := E.1) (cl := gp_cl) (ci := 0) (v := .ref (E.2.2.2 1)) (C := R_G) (T := T_G) (N := 8) hx hb hts i_G hown hK hP 0 rfl rfl 0 (by decide) (hts _ w1_117) (fun _ h9 => h9) rfl d_G_task_27 ?_
      refine va_get (D := E.1) (cl := gp_cl) (ci := 1) (v := .int (nI 6)) (C := R_D) (T := T_D) (N := 13) hx hb hts i_D hown hK hP 1 rfl rfl 10 (by decide) (hts _ w1_46) (fun _ h9 => h9) (congrArg (fun z => some (Value.int z)) hT) d_G_task_30 ?_
      refine lv_bipush (v := 6) hx hb d_G_task_33 (by decide) ?_
      refine lv_icmp_lt (tgt := 48) hx hb d_G_task_35 (by decide) (fun c35 => ?_) (fun c35 => ?_)
      · have c35 := c35
        have nc35 : 6 < 6 := (nI_ltI (a := 6) (b := 6) (by omega) (by omega)).mp c35
        exact False.elim (by omega)
      · have c35 := c35
        have nc35 : ¬ 6 < 6 := fun h => c35 ((nI_ltI (a := 6) (b := 6) (by omega) (by omega)).mpr h)
        exact gx_thr (X := "java/lang/IllegalStateException") (ik := 54) (is := 89) (ic := 58) (tx := "there are six tasks") hx hb hlt hown (by decide) (hts _ w2_83) (hts _ w1_9) hSt gx_hat2 (by decide) (hl.1.trans hml.symm) d_G_task_38 d_G_task_41 d_G_task_42 d_G_task_44 d_G_task_47 hem (Nat.le_of_ble_eq_true rfl) (Nat.le_of_ble_eq_true rfl) (Nat.le_of_ble_eq_true rfl) (Nat.le_of_ble_eq_true rfl) hlocks
    · have c7 := c7
      have mc7 : 8 ≤ x := Int32.not_lt.mp c7
      exact False.elim (c7 k2)
set_option maxHeartbeats 4000000 in
set_option maxRecDepth 100000 in
theorem c_G_rest (l : Launch) (E : gp_E) (I : Nat → Int32) (F : Nat → Nat → Int32) (x : Int32) (h1 : ¬ x < 0) (h3 : x ≤ 96) : gp_CW l y_G_rest b_G_rest 3 (some .int) 2 E (gp_wG E I F) (gp_wG E (upd I 7 x) F) [.ref (E.2.2.2 0), .int x] (some (.int (I 7))) := by
  refine gp_ofW (by decide) (Nat.le_of_ble_eq_true rfl) ?_
  intro xp xe xs xm below meth xc ls A hx hb hr hts hown hlocks hml hP hK hD hA hAe hl
  have hS : va_S A xs.heap xs.heap [] := va_S.rf
  have hown : xs.vm.findClass "GuidePlans" = some xm.cls := hown
  have hl : lv_has ls 3 [(0, .ref (E.2.2.2 0)), (1, .int x)] := hl
  refine lv_aload_n hx hb d_G_rest_0 rfl (lv_at hl 0 rfl) ?_
  refine lv_iload_n hx hb d_G_rest_1 rfl (lv_at hl 1 rfl) ?_
  refine gp_cV0 (q0 := 0) (ci := 0) (As := [.int x]) (rest := []) ⟨hx, hb, hml, hown, hts⟩ (c_G_requireQuarters l E I F x h1 h3) (k_G_95 hts ⟨by decide, by decide⟩ rfl rfl) hK hP rfl rfl rfl hl.1 rfl (Nat.le_of_ble_eq_true rfl) d_G_rest_2 ⟨Nat.le_of_ble_eq_true rfl, Nat.le_of_ble_eq_true rfl⟩ ?_
  refine lv_aload_n hx hb d_G_rest_5 rfl (lv_at hl 0 rfl) ?_
  refine va_get (D := E.1) (cl := gp_cl) (ci := 0) (v := .ref (E.2.2.2 1)) (C := R_G) (T := T_G) (N := 8) hx hb hts i_G hown hK hP 0 rfl rfl 0 (by decide) (hts _ w1_117) (fun _ h9 => h9) rfl d_G_rest_6 ?_
  refine va_get (D := E.1) (cl := gp_cl) (ci := 1) (v := .int (I 7)) (C := R_D) (T := T_D) (N := 13) hx hb hts i_D hown hK hP 1 rfl rfl 11 (by decide) (hts _ w1_48) (fun _ h9 => h9) rfl d_G_rest_9 ?_
  refine lv_istore_n (lv' := [(2, .int (I 7)), (0, .ref (E.2.2.2 0)), (1, .int x)]) hx hb d_G_rest_12 rfl hl (by decide) rfl (fun ls hl => ?_)
  refine lv_aload_n hx hb d_G_rest_13 rfl (lv_at hl 1 rfl) ?_
  refine va_get (D := E.1) (cl := gp_cl) (ci := 0) (v := .ref (E.2.2.2 1)) (C := R_G) (T := T_G) (N := 8) hx hb hts i_G hown hK hP 0 rfl rfl 0 (by decide) (hts _ w1_117) (fun _ h9 => h9) rfl d_G_rest_14 ?_
  refine lv_iload_n hx hb d_G_rest_17 rfl (lv_at hl 2 rfl) ?_
  refine va_put (D := E.1) (cl := gp_cl) (ci := 1) (v := .int x) (ty := .int) (C := R_D) (T := T_D) (N := 13) hx hb hts i_D t_D t_D_ok n_D hown hK hP hD hS 1 rfl rfl 11 (by decide) (hts _ w1_48) (fun _ h9 => h9) rfl (by decide +kernel) rfl rfl (Nat.le_of_ble_eq_true rfl) d_G_rest_18 (fun H locs hP hD hS => ?_)
  have hP : va_P E.1 gp_cl (gp_wG E (upd I 7 x) F) H := hP
  have hD : va_D A (gp_wG E (upd I 7 x) F) := hD
  refine lv_iload_n hx hb d_G_rest_21 rfl (lv_at hl 0 rfl) ?_
  exact gp_wi hx hb hr hlocks hAe (rfl) (hP) hS d_G_rest_22
set_option maxHeartbeats 4000000 in
set_option maxRecDepth 100000 in
theorem x_G_rest (l : Launch) (E : gp_E) (I : Nat → Int32) (F : Nat → Nat → Int32) (x : Int32) (hlt : l.stackTraces = false) (h : ¬ (¬ x < 0 ∧ x ≤ 96)) : gx_CT l y_G_rest b_G_rest 3 (some .int) 7 E (gp_wG E I F) [.ref (E.2.2.2 0), .int x] "java/lang/IllegalArgumentException" := by
  refine gx_ofT (by decide) (Nat.le_of_ble_eq_true rfl) ?_
  intro xp xe xs xm below meth xc ls hx hb hr hts hown hlocks hml hem hP hK hSt hl
  have hown : xs.vm.findClass "GuidePlans" = some xm.cls := hown
  have hl : lv_has ls 3 [(0, .ref (E.2.2.2 0)), (1, .int x)] := hl
  refine lv_aload_n hx hb d_G_rest_0 rfl (lv_at hl 0 rfl) ?_
  refine lv_iload_n hx hb d_G_rest_1 rfl (lv_at hl 1 rfl) ?_
  exact gx_cV (q0 := 0) (ci := 0) (As := [.int x]) (rest := []) ⟨hx, hb, hml, hown, hts⟩ (x_G_requireQuarters l E I F x hlt h) (k_G_95 hts ⟨by decide, by decide⟩ rfl rfl) hK hP hSt rfl rfl rfl hl.1 rfl (Nat.le_of_ble_eq_true rfl) d_G_rest_2 ⟨Nat.le_of_ble_eq_true rfl, Nat.le_of_ble_eq_true rfl⟩ hem hlocks
set_option maxHeartbeats 4000000 in
set_option maxRecDepth 100000 in
theorem c_G_limit (l : Launch) (E : gp_E) (I : Nat → Int32) (F : Nat → Nat → Int32) (x : Int32) (h1 : ¬ x < 0) (h3 : x ≤ 96) : gp_CW l y_G_limit b_G_limit 3 (some .int) 2 E (gp_wG E I F) (gp_wG E (upd I 8 x) F) [.ref (E.2.2.2 0), .int x] (some (.int (I 8))) := by
  refine gp_ofW (by decide) (Nat.le_of_ble_eq_true rfl) ?_
  intro xp xe xs xm below meth xc ls A hx hb hr hts hown hlocks hml hP hK hD hA hAe hl
  have hS : va_S A xs.heap xs.heap [] := va_S.rf
  have hown : xs.vm.findClass "GuidePlans" = some xm.cls := hown
  have hl : lv_has ls 3 [(0, .ref (E.2.2.2 0)), (1, .int x)] := hl
  refine lv_aload_n hx hb d_G_limit_0 rfl (lv_at hl 0 rfl) ?_
  refine lv_iload_n hx hb d_G_limit_1 rfl (lv_at hl 1 rfl) ?_
  refine gp_cV0 (q0 := 0) (ci := 0) (As := [.int x]) (rest := []) ⟨hx, hb, hml, hown, hts⟩ (c_G_requireQuarters l E I F x h1 h3) (k_G_95 hts ⟨by decide, by decide⟩ rfl rfl) hK hP rfl rfl rfl hl.1 rfl (Nat.le_of_ble_eq_true rfl) d_G_limit_2 ⟨Nat.le_of_ble_eq_true rfl, Nat.le_of_ble_eq_true rfl⟩ ?_
  refine lv_aload_n hx hb d_G_limit_5 rfl (lv_at hl 0 rfl) ?_
  refine va_get (D := E.1) (cl := gp_cl) (ci := 0) (v := .ref (E.2.2.2 1)) (C := R_G) (T := T_G) (N := 8) hx hb hts i_G hown hK hP 0 rfl rfl 0 (by decide) (hts _ w1_117) (fun _ h9 => h9) rfl d_G_limit_6 ?_
  refine va_get (D := E.1) (cl := gp_cl) (ci := 1) (v := .int (I 8)) (C := R_D) (T := T_D) (N := 13) hx hb hts i_D hown hK hP 1 rfl rfl 12 (by decide) (hts _ w1_50) (fun _ h9 => h9) rfl d_G_limit_9 ?_
  refine lv_istore_n (lv' := [(2, .int (I 8)), (0, .ref (E.2.2.2 0)), (1, .int x)]) hx hb d_G_limit_12 rfl hl (by decide) rfl (fun ls hl => ?_)
  refine lv_aload_n hx hb d_G_limit_13 rfl (lv_at hl 1 rfl) ?_
  refine va_get (D := E.1) (cl := gp_cl) (ci := 0) (v := .ref (E.2.2.2 1)) (C := R_G) (T := T_G) (N := 8) hx hb hts i_G hown hK hP 0 rfl rfl 0 (by decide) (hts _ w1_117) (fun _ h9 => h9) rfl d_G_limit_14 ?_
  refine lv_iload_n hx hb d_G_limit_17 rfl (lv_at hl 2 rfl) ?_
  refine va_put (D := E.1) (cl := gp_cl) (ci := 1) (v := .int x) (ty := .int) (C := R_D) (T := T_D) (N := 13) hx hb hts i_D t_D t_D_ok n_D hown hK hP hD hS 1 rfl rfl 12 (by decide) (hts _ w1_50) (fun _ h9 => h9) rfl (by decide +kernel) rfl rfl (Nat.le_of_ble_eq_true rfl) d_G_limit_18 (fun H locs hP hD hS => ?_)
  have hP : va_P E.1 gp_cl (gp_wG E (upd I 8 x) F) H := hP
  have hD : va_D A (gp_wG E (upd I 8 x) F) := hD
  refine lv_iload_n hx hb d_G_limit_21 rfl (lv_at hl 0 rfl) ?_
  exact gp_wi hx hb hr hlocks hAe (rfl) (hP) hS d_G_limit_22
set_option maxHeartbeats 4000000 in
set_option maxRecDepth 100000 in
theorem x_G_limit (l : Launch) (E : gp_E) (I : Nat → Int32) (F : Nat → Nat → Int32) (x : Int32) (hlt : l.stackTraces = false) (h : ¬ (¬ x < 0 ∧ x ≤ 96)) : gx_CT l y_G_limit b_G_limit 3 (some .int) 7 E (gp_wG E I F) [.ref (E.2.2.2 0), .int x] "java/lang/IllegalArgumentException" := by
  refine gx_ofT (by decide) (Nat.le_of_ble_eq_true rfl) ?_
  intro xp xe xs xm below meth xc ls hx hb hr hts hown hlocks hml hem hP hK hSt hl
  have hown : xs.vm.findClass "GuidePlans" = some xm.cls := hown
  have hl : lv_has ls 3 [(0, .ref (E.2.2.2 0)), (1, .int x)] := hl
  refine lv_aload_n hx hb d_G_limit_0 rfl (lv_at hl 0 rfl) ?_
  refine lv_iload_n hx hb d_G_limit_1 rfl (lv_at hl 1 rfl) ?_
  exact gx_cV (q0 := 0) (ci := 0) (As := [.int x]) (rest := []) ⟨hx, hb, hml, hown, hts⟩ (x_G_requireQuarters l E I F x hlt h) (k_G_95 hts ⟨by decide, by decide⟩ rfl rfl) hK hP hSt rfl rfl rfl hl.1 rfl (Nat.le_of_ble_eq_true rfl) d_G_limit_2 ⟨Nat.le_of_ble_eq_true rfl, Nat.le_of_ble_eq_true rfl⟩ hem hlocks
set_option maxHeartbeats 4000000 in
set_option maxRecDepth 100000 in
theorem c_G_freeze (l : Launch) (E : gp_E) (I : Nat → Int32) (F : Nat → Nat → Int32) (x : Int32) (h1 : ¬ x < 0) (h3 : x ≤ 96) : gp_CW l y_G_freeze b_G_freeze 3 (some .int) 2 E (gp_wG E I F) (gp_wG E (upd I 1 x) F) [.ref (E.2.2.2 0), .int x] (some (.int (I 1))) := by
  refine gp_ofW (by decide) (Nat.le_of_ble_eq_true rfl) ?_
  intro xp xe xs xm below meth xc ls A hx hb hr hts hown hlocks hml hP hK hD hA hAe hl
  have hS : va_S A xs.heap xs.heap [] := va_S.rf
  have hown : xs.vm.findClass "GuidePlans" = some xm.cls := hown
  have hl : lv_has ls 3 [(0, .ref (E.2.2.2 0)), (1, .int x)] := hl
  refine lv_aload_n hx hb d_G_freeze_0 rfl (lv_at hl 0 rfl) ?_
  refine lv_iload_n hx hb d_G_freeze_1 rfl (lv_at hl 1 rfl) ?_
  refine gp_cV0 (q0 := 0) (ci := 0) (As := [.int x]) (rest := []) ⟨hx, hb, hml, hown, hts⟩ (c_G_requireQuarters l E I F x h1 h3) (k_G_95 hts ⟨by decide, by decide⟩ rfl rfl) hK hP rfl rfl rfl hl.1 rfl (Nat.le_of_ble_eq_true rfl) d_G_freeze_2 ⟨Nat.le_of_ble_eq_true rfl, Nat.le_of_ble_eq_true rfl⟩ ?_
  refine lv_aload_n hx hb d_G_freeze_5 rfl (lv_at hl 0 rfl) ?_
  refine va_get (D := E.1) (cl := gp_cl) (ci := 0) (v := .int (I 1)) (C := R_G) (T := T_G) (N := 8) hx hb hts i_G hown hK hP 0 rfl rfl 5 (by decide) (hts _ w1_122) (fun _ h9 => h9) rfl d_G_freeze_6 ?_
  refine lv_istore_n (lv' := [(2, .int (I 1)), (0, .ref (E.2.2.2 0)), (1, .int x)]) hx hb d_G_freeze_9 rfl hl (by decide) rfl (fun ls hl => ?_)
  refine lv_aload_n hx hb d_G_freeze_10 rfl (lv_at hl 1 rfl) ?_
  refine lv_iload_n hx hb d_G_freeze_11 rfl (lv_at hl 2 rfl) ?_
  refine va_put (D := E.1) (cl := gp_cl) (ci := 0) (v := .int x) (ty := .int) (C := R_G) (T := T_G) (N := 8) hx hb hts i_G t_G t_G_ok n_G hown hK hP hD hS 0 rfl rfl 5 (by decide) (hts _ w1_122) (fun _ h9 => h9) rfl (by decide +kernel) rfl rfl (Nat.le_of_ble_eq_true rfl) d_G_freeze_12 (fun H locs hP hD hS => ?_)
  have hP : va_P E.1 gp_cl (gp_wG E (upd I 1 x) F) H := hP
  have hD : va_D A (gp_wG E (upd I 1 x) F) := hD
  refine lv_iload_n hx hb d_G_freeze_15 rfl (lv_at hl 0 rfl) ?_
  exact gp_wi hx hb hr hlocks hAe (rfl) (hP) hS d_G_freeze_16
set_option maxHeartbeats 4000000 in
set_option maxRecDepth 100000 in
theorem x_G_freeze (l : Launch) (E : gp_E) (I : Nat → Int32) (F : Nat → Nat → Int32) (x : Int32) (hlt : l.stackTraces = false) (h : ¬ (¬ x < 0 ∧ x ≤ 96)) : gx_CT l y_G_freeze b_G_freeze 3 (some .int) 7 E (gp_wG E I F) [.ref (E.2.2.2 0), .int x] "java/lang/IllegalArgumentException" := by
  refine gx_ofT (by decide) (Nat.le_of_ble_eq_true rfl) ?_
  intro xp xe xs xm below meth xc ls hx hb hr hts hown hlocks hml hem hP hK hSt hl
  have hown : xs.vm.findClass "GuidePlans" = some xm.cls := hown
  have hl : lv_has ls 3 [(0, .ref (E.2.2.2 0)), (1, .int x)] := hl
  refine lv_aload_n hx hb d_G_freeze_0 rfl (lv_at hl 0 rfl) ?_
  refine lv_iload_n hx hb d_G_freeze_1 rfl (lv_at hl 1 rfl) ?_
  exact gx_cV (q0 := 0) (ci := 0) (As := [.int x]) (rest := []) ⟨hx, hb, hml, hown, hts⟩ (x_G_requireQuarters l E I F x hlt h) (k_G_95 hts ⟨by decide, by decide⟩ rfl rfl) hK hP hSt rfl rfl rfl hl.1 rfl (Nat.le_of_ble_eq_true rfl) d_G_freeze_2 ⟨Nat.le_of_ble_eq_true rfl, Nat.le_of_ble_eq_true rfl⟩ hem hlocks
set_option maxHeartbeats 4000000 in
set_option maxRecDepth 100000 in
theorem c_G_of (l : Launch) (E : gp_E) (I : Nat → Int32) (F : Nat → Nat → Int32) (nt t : Nat) (hT : I 6 = nI nt) (hnt : nt ≤ 6) (ht : t < nt) : gp_CR l y_G_of b_G_of 2 (some .int) 3 E (gp_wG E I F) [.ref (E.2.2.2 0), .int (nI t)] (F 14 t) := by
  refine gp_ofR (by decide) (Nat.le_of_ble_eq_true rfl) ?_
  intro xp xe xs xm below meth xc ls hx hb hr hts hown hlocks hml hP hK hl
  have hown : xs.vm.findClass "GuidePlans" = some xm.cls := hown
  have hl : lv_has ls 2 [(0, .ref (E.2.2.2 0)), (1, .int (nI t))] := hl
  refine lv_aload_n hx hb d_G_of_0 rfl (lv_at hl 0 rfl) ?_
  refine lv_iload_n hx hb d_G_of_1 rfl (lv_at hl 1 rfl) ?_
  refine gp_cV0 (q0 := 0) (ci := 0) (As := [.int (nI t)]) (rest := []) ⟨hx, hb, hml, hown, hts⟩ (c_G_requireTask l E I F (nI t) (by rw [hT]; exact gp_in_1 ht (by omega))) (k_G_119 hts ⟨by decide, by decide⟩ rfl rfl) hK hP rfl rfl rfl hl.1 rfl (Nat.le_of_ble_eq_true rfl) d_G_of_2 ⟨Nat.le_of_ble_eq_true rfl, Nat.le_of_ble_eq_true rfl⟩ ?_
  refine lv_aload_n hx hb d_G_of_5 rfl (lv_at hl 0 rfl) ?_
  refine va_get (D := E.1) (cl := gp_cl) (ci := 0) (v := .ref (E.2.2.2 17)) (C := R_G) (T := T_G) (N := 8) hx hb hts i_G hown hK hP 0 rfl rfl 2 (by decide) (hts _ w1_119) (fun _ h9 => h9) rfl d_G_of_6 ?_
  refine lv_iload_n hx hb d_G_of_9 rfl (lv_at hl 1 rfl) ?_
  refine gp_ald (f := (F 14)) (n := 6) hx hb hK hP 17 rfl (t) rfl (by omega) (by decide) d_G_of_10 ?_
  exact gp_ri hx hb hr hlocks (rfl) d_G_of_11
set_option maxHeartbeats 4000000 in
set_option maxRecDepth 100000 in
theorem x_G_of (l : Launch) (E : gp_E) (I : Nat → Int32) (F : Nat → Nat → Int32) (x : Int32) (hlt : l.stackTraces = false) (h : gp_in x (I 6) = false) : gx_CT l y_G_of b_G_of 2 (some .int) 7 E (gp_wG E I F) [.ref (E.2.2.2 0), .int x] "java/util/NoSuchElementException" := by
  refine gx_ofT (by decide) (Nat.le_of_ble_eq_true rfl) ?_
  intro xp xe xs xm below meth xc ls hx hb hr hts hown hlocks hml hem hP hK hSt hl
  have hown : xs.vm.findClass "GuidePlans" = some xm.cls := hown
  have hl : lv_has ls 2 [(0, .ref (E.2.2.2 0)), (1, .int x)] := hl
  refine lv_aload_n hx hb d_G_of_0 rfl (lv_at hl 0 rfl) ?_
  refine lv_iload_n hx hb d_G_of_1 rfl (lv_at hl 1 rfl) ?_
  exact gx_cV (q0 := 0) (ci := 0) (As := [.int x]) (rest := []) ⟨hx, hb, hml, hown, hts⟩ (x_G_requireTask l E I F x hlt h) (k_G_119 hts ⟨by decide, by decide⟩ rfl rfl) hK hP hSt rfl rfl rfl hl.1 rfl (Nat.le_of_ble_eq_true rfl) d_G_of_2 ⟨Nat.le_of_ble_eq_true rfl, Nat.le_of_ble_eq_true rfl⟩ hem hlocks
set_option maxHeartbeats 4000000 in
set_option maxRecDepth 100000 in
theorem c_G_cost (l : Launch) (E : gp_E) (I : Nat → Int32) (F : Nat → Nat → Int32) (np nt : Nat) (hpl : ¬ I 3 = 0) (hp4 : I 4 = nI np) (hnp : np ≤ 4) (hT : I 6 = nI nt) (hnt : nt ≤ 6) : gp_CR l y_G_cost b_G_cost 1 (some .int) 3 E (gp_wG E I F) [.ref (E.2.2.2 0)] (gp_e2 (F 14) nt np) := by
  refine gp_ofR (by decide) (Nat.le_of_ble_eq_true rfl) ?_
  intro xp xe xs xm below meth xc ls hx hb hr hts hown hlocks hml hP hK hl
  have hown : xs.vm.findClass "GuidePlans" = some xm.cls := hown
  have hl : lv_has ls 1 [(0, .ref (E.2.2.2 0))] := hl
  refine lv_aload_n hx hb d_G_cost_0 rfl (lv_at hl 0 rfl) ?_
  refine gp_cV0 (q0 := 0) (ci := 0) (As := []) (rest := []) ⟨hx, hb, hml, hown, hts⟩ (c_G_requirePlan l E I F hpl) (k_G_122 hts ⟨by decide, by decide⟩ rfl rfl) hK hP rfl rfl rfl hl.1 rfl (Nat.le_of_ble_eq_true rfl) d_G_cost_1 ⟨Nat.le_of_ble_eq_true rfl, Nat.le_of_ble_eq_true rfl⟩ ?_
  refine lv_aload_n hx hb d_G_cost_4 rfl (lv_at hl 0 rfl) ?_
  refine gp_cR (q0 := 0) (ci := 0) (As := []) (rest := []) ⟨hx, hb, hml, hown, hts⟩ (c_G_planCost l E I F np nt hp4 hnp hT hnt) (k_G_115 hts ⟨by decide, by decide⟩ rfl rfl) hK hP rfl rfl rfl hl.1 rfl (Nat.le_of_ble_eq_true rfl) d_G_cost_5 ⟨Nat.le_of_ble_eq_true rfl, Nat.le_of_ble_eq_true rfl⟩ ?_
  exact gp_ri hx hb hr hlocks (rfl) d_G_cost_8
set_option maxHeartbeats 4000000 in
set_option maxRecDepth 100000 in
theorem x_G_cost (l : Launch) (E : gp_E) (I : Nat → Int32) (F : Nat → Nat → Int32)  (hlt : l.stackTraces = false) (hpl : I 3 = 0) : gx_CT l y_G_cost b_G_cost 1 (some .int) 7 E (gp_wG E I F) [.ref (E.2.2.2 0)] "java/lang/IllegalStateException" := by
  refine gx_ofT (by decide) (Nat.le_of_ble_eq_true rfl) ?_
  intro xp xe xs xm below meth xc ls hx hb hr hts hown hlocks hml hem hP hK hSt hl
  have hown : xs.vm.findClass "GuidePlans" = some xm.cls := hown
  have hl : lv_has ls 1 [(0, .ref (E.2.2.2 0))] := hl
  refine lv_aload_n hx hb d_G_cost_0 rfl (lv_at hl 0 rfl) ?_
  exact gx_cV (q0 := 0) (ci := 0) (As := []) (rest := []) ⟨hx, hb, hml, hown, hts⟩ (x_G_requirePlan l E I F hlt hpl) (k_G_122 hts ⟨by decide, by decide⟩ rfl rfl) hK hP hSt rfl rfl rfl hl.1 rfl (Nat.le_of_ble_eq_true rfl) d_G_cost_1 ⟨Nat.le_of_ble_eq_true rfl, Nat.le_of_ble_eq_true rfl⟩ hem hlocks
set_option maxHeartbeats 4000000 in
set_option maxRecDepth 100000 in
theorem c_G_changed (l : Launch) (E : gp_E) (I : Nat → Int32) (F : Nat → Nat → Int32) (nc j : Nat) (hC : I 0 = nI nc) (hnc : nc ≤ 6) (hj : j < nc) : gp_CR l y_G_changed b_G_changed 2 (some .int) 1 E (gp_wG E I F) [.ref (E.2.2.2 0), .int (nI j)] (F 15 j) := by
  refine gp_ofR (by decide) (Nat.le_of_ble_eq_true rfl) ?_
  intro xp xe xs xm below meth xc ls hx hb hr hts hown hlocks hml hP hK hl
  have hown : xs.vm.findClass "GuidePlans" = some xm.cls := hown
  have hl : lv_has ls 2 [(0, .ref (E.2.2.2 0)), (1, .int (nI j))] := hl
  refine lv_iload_n hx hb d_G_changed_0 rfl (lv_at hl 1 rfl) ?_
  refine lv_if_lt (tgt := 12) hx hb d_G_changed_1 (by decide) (fun c1 => ?_) (fun c1 => ?_)
  · have c1 := c1
    have nc1 : j < 0 := (nI_ltI (a := j) (b := 0) (by omega) (by omega)).mp c1
    exact False.elim (by omega)
  · have c1 := c1
    have nc1 : ¬ j < 0 := fun h => c1 ((nI_ltI (a := j) (b := 0) (by omega) (by omega)).mpr h)
    refine lv_iload_n hx hb d_G_changed_4 rfl (lv_at hl 1 rfl) ?_
    refine lv_aload_n hx hb d_G_changed_5 rfl (lv_at hl 0 rfl) ?_
    refine va_get (D := E.1) (cl := gp_cl) (ci := 0) (v := .int (nI nc)) (C := R_G) (T := T_G) (N := 8) hx hb hts i_G hown hK hP 0 rfl rfl 4 (by decide) (hts _ w1_121) (fun _ h9 => h9) (congrArg (fun z => some (Value.int z)) hC) d_G_changed_6 ?_
    refine lv_icmp_lt (tgt := 22) hx hb d_G_changed_9 (by decide) (fun c9 => ?_) (fun c9 => ?_)
    · have c9 := c9
      have nc9 : j < nc := (nI_ltI (a := j) (b := nc) (by omega) (by omega)).mp c9
      refine lv_aload_n hx hb d_G_changed_22 rfl (lv_at hl 0 rfl) ?_
      refine va_get (D := E.1) (cl := gp_cl) (ci := 0) (v := .ref (E.2.2.2 18)) (C := R_G) (T := T_G) (N := 8) hx hb hts i_G hown hK hP 0 rfl rfl 3 (by decide) (hts _ w1_120) (fun _ h9 => h9) rfl d_G_changed_23 ?_
      refine lv_iload_n hx hb d_G_changed_26 rfl (lv_at hl 1 rfl) ?_
      refine gp_ald (f := (F 15)) (n := 6) hx hb hK hP 18 rfl (j) rfl (by omega) (by decide) d_G_changed_27 ?_
      exact gp_ri hx hb hr hlocks (rfl) d_G_changed_28
    · have c9 := c9
      have nc9 : ¬ j < nc := fun h => c9 ((nI_ltI (a := j) (b := nc) (by omega) (by omega)).mpr h)
      exact False.elim (by omega)
set_option maxHeartbeats 4000000 in
set_option maxRecDepth 100000 in
theorem x_G_changed (l : Launch) (E : gp_E) (I : Nat → Int32) (F : Nat → Nat → Int32) (x : Int32) (hlt : l.stackTraces = false) (h : ¬ (¬ x < 0 ∧ x < I 0)) : gx_CT l y_G_changed b_G_changed 2 (some .int) 6 E (gp_wG E I F) [.ref (E.2.2.2 0), .int x] "java/util/NoSuchElementException" := by
  refine gx_ofT (by decide) (Nat.le_of_ble_eq_true rfl) ?_
  intro xp xe xs xm below meth xc ls hx hb hr hts hown hlocks hml hem hP hK hSt hl
  have hown : xs.vm.findClass "GuidePlans" = some xm.cls := hown
  have hl : lv_has ls 2 [(0, .ref (E.2.2.2 0)), (1, .int x)] := hl
  refine lv_iload_n hx hb d_G_changed_0 rfl (lv_at hl 1 rfl) ?_
  refine lv_if_lt (tgt := 12) hx hb d_G_changed_1 (by decide) (fun c1 => ?_) (fun c1 => ?_)
  · have c1 := c1
    have mc1 : ¬ 0 ≤ x := Int32.not_le.mpr c1
    exact gx_thr (X := "java/util/NoSuchElementException") (ik := 81) (is := 135) (ic := 85) (tx := "no such change") hx hb hlt hown (by decide) (hts _ w2_116) (hts _ w1_10) hSt gx_hat3 (by decide) (hl.1.trans hml.symm) d_G_changed_12 d_G_changed_15 d_G_changed_16 d_G_changed_18 d_G_changed_21 hem (Nat.le_of_ble_eq_true rfl) (Nat.le_of_ble_eq_true rfl) (Nat.le_of_ble_eq_true rfl) (Nat.le_of_ble_eq_true rfl) hlocks
  · have c1 := c1
    have mc1 : 0 ≤ x := Int32.not_lt.mp c1
    refine lv_iload_n hx hb d_G_changed_4 rfl (lv_at hl 1 rfl) ?_
    refine lv_aload_n hx hb d_G_changed_5 rfl (lv_at hl 0 rfl) ?_
    refine va_get (D := E.1) (cl := gp_cl) (ci := 0) (v := .int (I 0)) (C := R_G) (T := T_G) (N := 8) hx hb hts i_G hown hK hP 0 rfl rfl 4 (by decide) (hts _ w1_121) (fun _ h9 => h9) rfl d_G_changed_6 ?_
    refine lv_icmp_lt (tgt := 22) hx hb d_G_changed_9 (by decide) (fun c9 => ?_) (fun c9 => ?_)
    · have c9 := c9
      have mc9 : ¬ (I 0) ≤ x := Int32.not_le.mpr c9
      exact (h ⟨c1, c9⟩).elim
    · have c9 := c9
      have mc9 : (I 0) ≤ x := Int32.not_lt.mp c9
      exact gx_thr (X := "java/util/NoSuchElementException") (ik := 81) (is := 135) (ic := 85) (tx := "no such change") hx hb hlt hown (by decide) (hts _ w2_116) (hts _ w1_10) hSt gx_hat3 (by decide) (hl.1.trans hml.symm) d_G_changed_12 d_G_changed_15 d_G_changed_16 d_G_changed_18 d_G_changed_21 hem (Nat.le_of_ble_eq_true rfl) (Nat.le_of_ble_eq_true rfl) (Nat.le_of_ble_eq_true rfl) (Nat.le_of_ble_eq_true rfl) hlocks
set_option maxHeartbeats 4000000 in
set_option maxRecDepth 100000 in
theorem c_G_work (l : Launch) (E : gp_E) (I : Nat → Int32) (F : Nat → Nat → Int32) (nt : Nat) (x : Int32) (h : gp_in x (I 4) = true) (hT : I 6 = nI nt) (hnt : nt ≤ 6) : gp_CR l y_G_work b_G_work 2 (some .int) 4 E (gp_wG E I F) [.ref (E.2.2.2 0), .int x] (gp_qo F (F 14) x nt) := by
  refine gp_ofR (by decide) (Nat.le_of_ble_eq_true rfl) ?_
  intro xp xe xs xm below meth xc ls hx hb hr hts hown hlocks hml hP hK hl
  have hown : xs.vm.findClass "GuidePlans" = some xm.cls := hown
  have hl : lv_has ls 2 [(0, .ref (E.2.2.2 0)), (1, .int x)] := hl
  refine lv_aload_n hx hb d_G_work_0 rfl (lv_at hl 0 rfl) ?_
  refine lv_iload_n hx hb d_G_work_1 rfl (lv_at hl 1 rfl) ?_
  refine gp_cV0 (q0 := 0) (ci := 0) (As := [.int x]) (rest := []) ⟨hx, hb, hml, hown, hts⟩ (c_G_requirePerson l E I F x h) (k_G_63 hts ⟨by decide, by decide⟩ rfl rfl) hK hP rfl rfl rfl hl.1 rfl (Nat.le_of_ble_eq_true rfl) d_G_work_2 ⟨Nat.le_of_ble_eq_true rfl, Nat.le_of_ble_eq_true rfl⟩ ?_
  refine lv_aload_n hx hb d_G_work_5 rfl (lv_at hl 0 rfl) ?_
  refine lv_iload_n hx hb d_G_work_6 rfl (lv_at hl 1 rfl) ?_
  refine gp_cR (q0 := 0) (ci := 0) (As := [.int x]) (rest := []) ⟨hx, hb, hml, hown, hts⟩ (c_G_quartersOf l E I F nt x hT hnt) (k_G_151 hts ⟨by decide, by decide⟩ rfl rfl) hK hP rfl rfl rfl hl.1 rfl (Nat.le_of_ble_eq_true rfl) d_G_work_7 ⟨Nat.le_of_ble_eq_true rfl, Nat.le_of_ble_eq_true rfl⟩ ?_
  exact gp_ri hx hb hr hlocks (rfl) d_G_work_10
set_option maxHeartbeats 4000000 in
set_option maxRecDepth 100000 in
theorem x_G_work (l : Launch) (E : gp_E) (I : Nat → Int32) (F : Nat → Nat → Int32) (x : Int32) (hlt : l.stackTraces = false) (h : gp_in x (I 4) = false) : gx_CT l y_G_work b_G_work 2 (some .int) 7 E (gp_wG E I F) [.ref (E.2.2.2 0), .int x] "java/util/NoSuchElementException" := by
  refine gx_ofT (by decide) (Nat.le_of_ble_eq_true rfl) ?_
  intro xp xe xs xm below meth xc ls hx hb hr hts hown hlocks hml hem hP hK hSt hl
  have hown : xs.vm.findClass "GuidePlans" = some xm.cls := hown
  have hl : lv_has ls 2 [(0, .ref (E.2.2.2 0)), (1, .int x)] := hl
  refine lv_aload_n hx hb d_G_work_0 rfl (lv_at hl 0 rfl) ?_
  refine lv_iload_n hx hb d_G_work_1 rfl (lv_at hl 1 rfl) ?_
  exact gx_cV (q0 := 0) (ci := 0) (As := [.int x]) (rest := []) ⟨hx, hb, hml, hown, hts⟩ (x_G_requirePerson l E I F x hlt h) (k_G_63 hts ⟨by decide, by decide⟩ rfl rfl) hK hP hSt rfl rfl rfl hl.1 rfl (Nat.le_of_ble_eq_true rfl) d_G_work_2 ⟨Nat.le_of_ble_eq_true rfl, Nat.le_of_ble_eq_true rfl⟩ hem hlocks
set_option maxHeartbeats 4000000 in
set_option maxRecDepth 100000 in
theorem c_G_count0 (l : Launch) (E : gp_E) (I : Nat → Int32) (F : Nat → Nat → Int32) : gp_CR l y_G_count b_G_count 2 (some .int) 1 E (gp_wG E I F) [.ref (E.2.2.2 0), .int 0] (I 4) := by
  refine gp_ofR (by decide) (Nat.le_of_ble_eq_true rfl) ?_
  intro xp xe xs xm below meth xc ls hx hb hr hts hown hlocks hml hP hK hl
  have hown : xs.vm.findClass "GuidePlans" = some xm.cls := hown
  have hl : lv_has ls 2 [(0, .ref (E.2.2.2 0)), (1, .int 0)] := hl
  refine lv_iload_n hx hb d_G_count_0 rfl (lv_at hl 1 rfl) ?_
  refine lv_tableIn (tgt := 32) (off := 31) hx hb d_G_count_1 (by decide) (by decide) rfl (by decide) ?_
  refine lv_aload_n hx hb d_G_count_32 rfl (lv_at hl 0 rfl) ?_
  refine va_get (D := E.1) (cl := gp_cl) (ci := 0) (v := .ref (E.2.2.2 1)) (C := R_G) (T := T_G) (N := 8) hx hb hts i_G hown hK hP 0 rfl rfl 0 (by decide) (hts _ w1_117) (fun _ h9 => h9) rfl d_G_count_33 ?_
  refine va_get (D := E.1) (cl := gp_cl) (ci := 1) (v := .int (I 4)) (C := R_D) (T := T_D) (N := 13) hx hb hts i_D hown hK hP 1 rfl rfl 8 (by decide) (hts _ w1_40) (fun _ h9 => h9) rfl d_G_count_36 ?_
  exact gp_ri hx hb hr hlocks (rfl) d_G_count_39
set_option maxHeartbeats 4000000 in
set_option maxRecDepth 100000 in
theorem c_G_count1 (l : Launch) (E : gp_E) (I : Nat → Int32) (F : Nat → Nat → Int32) : gp_CR l y_G_count b_G_count 2 (some .int) 1 E (gp_wG E I F) [.ref (E.2.2.2 0), .int 1] (I 6) := by
  refine gp_ofR (by decide) (Nat.le_of_ble_eq_true rfl) ?_
  intro xp xe xs xm below meth xc ls hx hb hr hts hown hlocks hml hP hK hl
  have hown : xs.vm.findClass "GuidePlans" = some xm.cls := hown
  have hl : lv_has ls 2 [(0, .ref (E.2.2.2 0)), (1, .int 1)] := hl
  refine lv_iload_n hx hb d_G_count_0 rfl (lv_at hl 1 rfl) ?_
  refine lv_tableIn (tgt := 40) (off := 39) hx hb d_G_count_1 (by decide) (by decide) rfl (by decide) ?_
  refine lv_aload_n hx hb d_G_count_40 rfl (lv_at hl 0 rfl) ?_
  refine va_get (D := E.1) (cl := gp_cl) (ci := 0) (v := .ref (E.2.2.2 1)) (C := R_G) (T := T_G) (N := 8) hx hb hts i_G hown hK hP 0 rfl rfl 0 (by decide) (hts _ w1_117) (fun _ h9 => h9) rfl d_G_count_41 ?_
  refine va_get (D := E.1) (cl := gp_cl) (ci := 1) (v := .int (I 6)) (C := R_D) (T := T_D) (N := 13) hx hb hts i_D hown hK hP 1 rfl rfl 10 (by decide) (hts _ w1_46) (fun _ h9 => h9) rfl d_G_count_44 ?_
  exact gp_ri hx hb hr hlocks (rfl) d_G_count_47
set_option maxHeartbeats 4000000 in
set_option maxRecDepth 100000 in
theorem c_G_count2 (l : Launch) (E : gp_E) (I : Nat → Int32) (F : Nat → Nat → Int32) : gp_CR l y_G_count b_G_count 2 (some .int) 1 E (gp_wG E I F) [.ref (E.2.2.2 0), .int 2] (I 5) := by
  refine gp_ofR (by decide) (Nat.le_of_ble_eq_true rfl) ?_
  intro xp xe xs xm below meth xc ls hx hb hr hts hown hlocks hml hP hK hl
  have hown : xs.vm.findClass "GuidePlans" = some xm.cls := hown
  have hl : lv_has ls 2 [(0, .ref (E.2.2.2 0)), (1, .int 2)] := hl
  refine lv_iload_n hx hb d_G_count_0 rfl (lv_at hl 1 rfl) ?_
  refine lv_tableIn (tgt := 48) (off := 47) hx hb d_G_count_1 (by decide) (by decide) rfl (by decide) ?_
  refine lv_aload_n hx hb d_G_count_48 rfl (lv_at hl 0 rfl) ?_
  refine va_get (D := E.1) (cl := gp_cl) (ci := 0) (v := .ref (E.2.2.2 1)) (C := R_G) (T := T_G) (N := 8) hx hb hts i_G hown hK hP 0 rfl rfl 0 (by decide) (hts _ w1_117) (fun _ h9 => h9) rfl d_G_count_49 ?_
  refine va_get (D := E.1) (cl := gp_cl) (ci := 1) (v := .int (I 5)) (C := R_D) (T := T_D) (N := 13) hx hb hts i_D hown hK hP 1 rfl rfl 9 (by decide) (hts _ w1_43) (fun _ h9 => h9) rfl d_G_count_52 ?_
  exact gp_ri hx hb hr hlocks (rfl) d_G_count_55
set_option maxHeartbeats 4000000 in
set_option maxRecDepth 100000 in
theorem c_G_count3 (l : Launch) (E : gp_E) (I : Nat → Int32) (F : Nat → Nat → Int32) : gp_CR l y_G_count b_G_count 2 (some .int) 1 E (gp_wG E I F) [.ref (E.2.2.2 0), .int 3] (I 0) := by
  refine gp_ofR (by decide) (Nat.le_of_ble_eq_true rfl) ?_
  intro xp xe xs xm below meth xc ls hx hb hr hts hown hlocks hml hP hK hl
  have hown : xs.vm.findClass "GuidePlans" = some xm.cls := hown
  have hl : lv_has ls 2 [(0, .ref (E.2.2.2 0)), (1, .int 3)] := hl
  refine lv_iload_n hx hb d_G_count_0 rfl (lv_at hl 1 rfl) ?_
  refine lv_tableIn (tgt := 56) (off := 55) hx hb d_G_count_1 (by decide) (by decide) rfl (by decide) ?_
  refine lv_aload_n hx hb d_G_count_56 rfl (lv_at hl 0 rfl) ?_
  refine va_get (D := E.1) (cl := gp_cl) (ci := 0) (v := .int (I 0)) (C := R_G) (T := T_G) (N := 8) hx hb hts i_G hown hK hP 0 rfl rfl 4 (by decide) (hts _ w1_121) (fun _ h9 => h9) rfl d_G_count_57 ?_
  exact gp_ri hx hb hr hlocks (rfl) d_G_count_60
set_option maxHeartbeats 4000000 in
set_option maxRecDepth 100000 in
theorem x_G_count (l : Launch) (E : gp_E) (I : Nat → Int32) (F : Nat → Nat → Int32) (x : Int32) (hlt : l.stackTraces = false) (h : x.toInt < 0 ∨ 3 < x.toInt) : gx_CT l y_G_count b_G_count 2 (some .int) 6 E (gp_wG E I F) [.ref (E.2.2.2 0), .int x] "java/util/NoSuchElementException" := by
  refine gx_ofT (by decide) (Nat.le_of_ble_eq_true rfl) ?_
  intro xp xe xs xm below meth xc ls hx hb hr hts hown hlocks hml hem hP hK hSt hl
  have hown : xs.vm.findClass "GuidePlans" = some xm.cls := hown
  have hl : lv_has ls 2 [(0, .ref (E.2.2.2 0)), (1, .int x)] := hl
  refine lv_iload_n hx hb d_G_count_0 rfl (lv_at hl 1 rfl) ?_
  refine lv_tableOut (tgt := 61) hx hb d_G_count_1 (h) (by decide) ?_
  exact gx_thr (X := "java/util/NoSuchElementException") (ik := 81) (is := 165) (ic := 85) (tx := "nothing to count by this number") hx hb hlt hown (by decide) (hts _ w2_116) (hts _ w1_10) hSt gx_hat3 (by decide) (hl.1.trans hml.symm) d_G_count_61 d_G_count_64 d_G_count_65 d_G_count_67 d_G_count_70 hem (Nat.le_of_ble_eq_true rfl) (Nat.le_of_ble_eq_true rfl) (Nat.le_of_ble_eq_true rfl) (Nat.le_of_ble_eq_true rfl) hlocks
set_option maxHeartbeats 4000000 in
set_option maxRecDepth 100000 in
theorem c_G_fair (l : Launch) (E : gp_E) (I : Nat → Int32) (F : Nat → Nat → Int32) (np nt : Nat) (hp4 : I 4 = nI np) (hnp : np ≤ 4) (hT : I 6 = nI nt) (hnt : nt ≤ 6) : gp_CR l y_G_fair b_G_fair 5 (some .int) 2 E (gp_wG E I F) [.ref (E.2.2.2 0)] (if np = 0 then 0 else gp_fm (F 14) nt np - gp_fw (F 14) nt np) := by
  refine gp_ofR (by decide) (Nat.le_of_ble_eq_true rfl) ?_
  intro xp xe xs xm below meth xc ls hx hb hr hts hown hlocks hml hP hK hl
  have hown : xs.vm.findClass "GuidePlans" = some xm.cls := hown
  have hl : lv_has ls 5 [(0, .ref (E.2.2.2 0))] := hl
  refine lv_aload_n hx hb d_G_fair_0 rfl (lv_at hl 0 rfl) ?_
  refine va_get (D := E.1) (cl := gp_cl) (ci := 0) (v := .ref (E.2.2.2 1)) (C := R_G) (T := T_G) (N := 8) hx hb hts i_G hown hK hP 0 rfl rfl 0 (by decide) (hts _ w1_117) (fun _ h9 => h9) rfl d_G_fair_1 ?_
  refine va_get (D := E.1) (cl := gp_cl) (ci := 1) (v := .int (nI np)) (C := R_D) (T := T_D) (N := 13) hx hb hts i_D hown hK hP 1 rfl rfl 8 (by decide) (hts _ w1_40) (fun _ h9 => h9) (congrArg (fun z => some (Value.int z)) hp4) d_G_fair_4 ?_
  refine lv_if_ne (tgt := 12) hx hb d_G_fair_7 (by decide) (fun c7 => ?_) (fun c7 => ?_)
  · have c7 := c7
    have nc7 : ¬ np = 0 := fun h => c7 ((nI_eq (a := np) (b := 0) (by omega) (by omega)).mpr h)
    refine lv_iconst (v := 0) hx hb d_G_fair_12 (by decide) ?_
    refine lv_istore_n (lv' := [(1, .int 0), (0, .ref (E.2.2.2 0))]) hx hb d_G_fair_13 rfl hl (by decide) rfl (fun ls hl => ?_)
    refine lv_bipush (v := 6) hx hb d_G_fair_14 (by decide) ?_
    refine lv_istore_n (lv' := [(2, .int 6), (1, .int 0), (0, .ref (E.2.2.2 0))]) hx hb d_G_fair_16 rfl hl (by decide) rfl (fun ls hl => ?_)
    refine lv_iconst (v := 0) hx hb d_G_fair_17 (by decide) ?_
    refine lv_istore_n (lv' := [(3, .int 0), (2, .int 6), (1, .int 0), (0, .ref (E.2.2.2 0))]) hx hb d_G_fair_18 rfl hl (by decide) rfl (fun ls hl => ?_)
    have L19 : ∀ (n : Nat) (p : Nat), p ≤ np → np + 1 ≤ p + n → ∀ (ls : Array Slot), lv_has ls 5 [(3, .int (nI p)), (2, .int (gp_fw (F 14) nt p)), (1, .int (gp_fm (F 14) nt p)), (0, .ref (E.2.2.2 0))] → W xp l xe (gp_rm 2 0 0) xs xm ([.ref (E.2.2.2 0)] : List Value).toArray below meth xc xs.heap [] 0 0 (MQ below (QcRead (if np = 0 then 0 else gp_fm (F 14) nt np - gp_fw (F 14) nt np)) ([.ref (E.2.2.2 0)] : List Value).toArray xs 0 0 (fun _ => False)) (F0 xm 19 ls []) := by
      intro n
      induction n with
      | zero =>
        intro p q1 hm
        exact absurd hm (by omega)
      | succ n ih19 =>
        intro p q1 hm ls hl
        refine lv_iload_n hx hb d_G_fair_19 rfl (lv_at hl 0 rfl) ?_
        refine lv_aload_n hx hb d_G_fair_20 rfl (lv_at hl 3 rfl) ?_
        refine va_get (D := E.1) (cl := gp_cl) (ci := 0) (v := .ref (E.2.2.2 1)) (C := R_G) (T := T_G) (N := 8) hx hb hts i_G hown hK hP 0 rfl rfl 0 (by decide) (hts _ w1_117) (fun _ h9 => h9) rfl d_G_fair_21 ?_
        refine va_get (D := E.1) (cl := gp_cl) (ci := 1) (v := .int (nI np)) (C := R_D) (T := T_D) (N := 13) hx hb hts i_D hown hK hP 1 rfl rfl 8 (by decide) (hts _ w1_40) (fun _ h9 => h9) (congrArg (fun z => some (Value.int z)) hp4) d_G_fair_24 ?_
        refine lv_icmp_ge (tgt := 57) hx hb d_G_fair_27 (by decide) (fun c27 => ?_) (fun c27 => ?_)
        · have c27 := c27
          have nc27 : np ≤ p := (nI_leI (a := np) (b := p) (by omega) (by omega)).mp c27
          refine lv_iload_n hx hb d_G_fair_57 rfl (lv_at hl 2 rfl) ?_
          refine lv_iload_n hx hb d_G_fair_58 rfl (lv_at hl 1 rfl) ?_
          refine lv_isub hx hb d_G_fair_59 ?_
          exact gp_ri hx hb hr hlocks (by rw [if_neg nc7, show p = np by omega]) d_G_fair_60
        · have c27 := c27
          have nc27 : ¬ np ≤ p := fun h => c27 ((nI_leI (a := np) (b := p) (by omega) (by omega)).mpr h)
          refine lv_aload_n hx hb d_G_fair_30 rfl (lv_at hl 3 rfl) ?_
          refine lv_iload_n hx hb d_G_fair_31 rfl (lv_at hl 0 rfl) ?_
          refine gp_cR (q0 := 0) (ci := 0) (As := [.int (nI p)]) (rest := []) ⟨hx, hb, hml, hown, hts⟩ (c_G_numberOfTasks l E I F nt (nI p) hT hnt) (k_G_154 hts ⟨by decide, by decide⟩ rfl rfl) hK hP rfl rfl rfl hl.1 rfl (Nat.le_of_ble_eq_true rfl) d_G_fair_32 ⟨Nat.le_of_ble_eq_true rfl, Nat.le_of_ble_eq_true rfl⟩ ?_
          refine lv_istore (lv' := [(4, .int (gp_nu (F 14) (nI p) nt)), (3, .int (nI p)), (2, .int (gp_fw (F 14) nt p)), (1, .int (gp_fm (F 14) nt p)), (0, .ref (E.2.2.2 0))]) hx hb d_G_fair_35 hl (by decide) rfl (fun ls hl => ?_)
          refine lv_iload_n hx hb d_G_fair_37 rfl (lv_at hl 3 rfl) ?_
          refine lv_iload hx hb d_G_fair_38 (lv_at hl 0 rfl) ?_
          refine va_mmax hx hb (hml.trans hl.1.symm) hown (hts _ w2_0) (hts _ w2_1) (hts _ w1_12) (hts _ w2_2) (Nat.le_of_ble_eq_true rfl) (Nat.le_of_ble_eq_true rfl) (Nat.zero_le _) (Nat.zero_le _) d_G_fair_40 ?_
          refine lv_istore_n (lv' := [(1, .int (if (gp_fm (F 14) nt p) < (gp_nu (F 14) (nI p) nt) then (gp_nu (F 14) (nI p) nt) else (gp_fm (F 14) nt p))), (4, .int (gp_nu (F 14) (nI p) nt)), (3, .int (nI p)), (2, .int (gp_fw (F 14) nt p)), (0, .ref (E.2.2.2 0))]) hx hb d_G_fair_43 rfl hl (by decide) rfl (fun ls hl => ?_)
          refine lv_iload_n hx hb d_G_fair_44 rfl (lv_at hl 3 rfl) ?_
          refine lv_iload hx hb d_G_fair_45 (lv_at hl 1 rfl) ?_
          refine va_mmin hx hb (hml.trans hl.1.symm) hown (hts _ w2_3) (hts _ w2_4) (hts _ w1_12) (hts _ w2_5) (Nat.le_of_ble_eq_true rfl) (Nat.le_of_ble_eq_true rfl) (Nat.zero_le _) (Nat.zero_le _) d_G_fair_47 ?_
          refine lv_istore_n (lv' := [(2, .int (if (gp_nu (F 14) (nI p) nt) < (gp_fw (F 14) nt p) then (gp_nu (F 14) (nI p) nt) else (gp_fw (F 14) nt p))), (1, .int (if (gp_fm (F 14) nt p) < (gp_nu (F 14) (nI p) nt) then (gp_nu (F 14) (nI p) nt) else (gp_fm (F 14) nt p))), (4, .int (gp_nu (F 14) (nI p) nt)), (3, .int (nI p)), (0, .ref (E.2.2.2 0))]) hx hb d_G_fair_50 rfl hl (by decide) rfl (fun ls hl => ?_)
          refine lv_iinc (v := (nI (p + 1))) (lv' := [(3, .int (nI (p + 1))), (2, .int (if (gp_nu (F 14) (nI p) nt) < (gp_fw (F 14) nt p) then (gp_nu (F 14) (nI p) nt) else (gp_fw (F 14) nt p))), (1, .int (if (gp_fm (F 14) nt p) < (gp_nu (F 14) (nI p) nt) then (gp_nu (F 14) (nI p) nt) else (gp_fm (F 14) nt p))), (4, .int (gp_nu (F 14) (nI p) nt)), (0, .ref (E.2.2.2 0))]) hx hb d_G_fair_51 hl (k := 3) rfl (nI_1 _) (by decide) rfl (fun ls hl => ?_)
          refine lv_goto (tgt := 19) hx hb d_G_fair_54 (by decide) ?_
          exact ih19 (p + 1) (by omega) (by omega) ls (lv_sub hl [0, 1, 2, 4] rfl)
    exact L19 (np + 1) 0 (Nat.zero_le _) (by omega) ls (lv_sub hl [0, 1, 2, 3] rfl)
  · have c7 := c7
    have nc7 : np = 0 := (nI_eq (a := np) (b := 0) (by omega) (by omega)).mp c7
    refine lv_iconst (v := 0) hx hb d_G_fair_10 (by decide) ?_
    exact gp_ri hx hb hr hlocks (by simp [nc7]) d_G_fair_11
end
section
/-! ===== run, absent, swap ===== -/
theorem gp_kq.tr {σ τ ρ : gp_S} (h : gp_kq σ τ) (h2 : gp_kq τ ρ) : gp_kq σ ρ := ⟨fun i hi => (h2.1 i hi).trans (h.1 i hi), fun a ha => (h2.2.1 a ha).trans (h.2.1 a ha), fun a ha => (h2.2.2 a ha).trans (h.2.2 a ha)⟩
theorem gp_fl_kq {np nt ns : Nat} {fr : Int32} : ∀ (k t : Nat) (σ : gp_S), gp_kq σ (gp_fl np nt ns fr k t σ).2 := by
  intro k
  induction k with
  | zero => intro t σ; exact ⟨fun _ _ => rfl, fun _ _ => rfl, fun _ _ => rfl⟩
  | succ k ih =>
    intro t σ
    rw [gp_fl]
    split
    · exact ih _ _
    · split
      · exact gp_fd_kq.tr (ih _ _)
      · exact gp_fd_kq
def gp_ad (nt : Nat) (σ : gp_S) : gp_S := (upd (upd σ.1 3 1) 2 (-1), gp_uF σ.2 14 (fun j => if j < nt then σ.2 8 j else σ.2 14 j))
def gp_n1 (nt : Nat) (σ : gp_S) : gp_S := (upd σ.1 0 (nI (gp_nc σ.2 nt).1), gp_uF σ.2 15 (gp_nc σ.2 nt).2)
def gp_fL (np nt ns : Nat) (fr : Int32) (σ : gp_S) : Int32 × gp_S := gp_fl np nt ns fr nt 0 (upd (upd σ.1 9 0) 10 0, σ.2)
def gp_la (np nt ns : Nat) (fr : Int32) (σ : gp_S) : gp_S := (upd (gp_fL np nt ns fr σ).2.1 2 (gp_fL np nt ns fr σ).1, (gp_fL np nt ns fr σ).2.2)
def gp_fA (np nt ns : Nat) (σ : gp_S) : gp_S := gp_fd np nt ns 0 nt (upd (upd σ.1 9 0) 10 1, σ.2)
def gp_fN (np nt ns : Nat) (fr : Int32) (σ : gp_S) : gp_S := gp_fd np nt ns fr nt (upd (upd σ.1 9 1000) 10 1, σ.2)
def gp_run (np nt ns : Nat) (σ : gp_S) : Int32 × gp_S := if (gp_fA np nt ns σ).1 11 < 1000000 then (gp_e2 ((gp_ad nt (gp_fA np nt ns σ)).2 14) nt np, gp_ad nt (gp_fA np nt ns σ)) else (-1, gp_la np nt ns 0 (gp_fA np nt ns σ))
def gp_o1 (ns : Nat) (x y : Int32) (σ : gp_S) : gp_S := (upd σ.1 5 (nI (ns + 1)), gp_uF (gp_uF (gp_uF σ.2 1 (upd (σ.2 1) ns x)) 2 (upd (σ.2 2) ns y)) 3 (upd (σ.2 3) ns 96))
def gp_abs (np nt ns : Nat) (x y : Int32) (σ : gp_S) : Int32 × gp_S := if (gp_fN np nt (ns + 1) (σ.1 1) (gp_o1 ns x y σ)).1 11 < 1000000 then (nI (gp_nc (gp_fN np nt (ns + 1) (σ.1 1) (gp_o1 ns x y σ)).2 nt).1, gp_ad nt (gp_n1 nt (gp_fN np nt (ns + 1) (σ.1 1) (gp_o1 ns x y σ))))
  else (-1, (upd (gp_la np nt (ns + 1) (σ.1 1) (gp_fN np nt (ns + 1) (σ.1 1) (gp_o1 ns x y σ))).1 5 (nI ns), (gp_la np nt (ns + 1) (σ.1 1) (gp_fN np nt (ns + 1) (σ.1 1) (gp_o1 ns x y σ))).2))
theorem gp_fA_kq {np nt ns : Nat} {σ : gp_S} : gp_kq (upd (upd σ.1 9 0) 10 1, σ.2) (gp_fA np nt ns σ) := gp_fd_kq
theorem gp_fN_kq {np nt ns : Nat} {fr : Int32} {σ : gp_S} : gp_kq (upd (upd σ.1 9 1000) 10 1, σ.2) (gp_fN np nt ns fr σ) := gp_fd_kq
theorem gp_fL_kq {np nt ns : Nat} {fr : Int32} {σ : gp_S} : gp_kq (upd (upd σ.1 9 0) 10 0, σ.2) (gp_fL np nt ns fr σ).2 := gp_fl_kq _ _ _
def gp_emp (F : Nat → Nat → Int32) (t : Nat) (x : Int32) : Bool := !decide (F 7 t = 0) && decide (x = -1)
def gp_swF (F : Nat → Nat → Int32) (a b : Nat) : Nat → Nat → Int32 := gp_uF F 14 (upd (upd (F 14) a (F 14 b)) b (F 14 a))
def gp_swr (I : Nat → Int32) (F : Nat → Nat → Int32) (ns nt a b : Nat) : Int32 :=
  if F 5 a < I 1 ∨ F 5 b < I 1 then 1 else if gp_emp F a (F 14 b) = true ∨ gp_emp F b (F 14 a) = true then 2 else if gp_uns F ns (F 14 b) a = true ∨ gp_uns F ns (F 14 a) b = true then 3 else gp_fs I (gp_swF F a b) (F 14 a) (F 14 b) nt
def gp_sw (I : Nat → Int32) (F : Nat → Nat → Int32) (ns nt a b : Nat) : Nat → Nat → Int32 := if gp_swr I F ns nt a b = 0 then gp_swF F a b else F
theorem gp_back {f : Nat → Int32} {a b : Nat} : upd (upd (upd (upd f a (f b)) b (f a)) a (f a)) b (f b) = f := by
  funext j
  by_cases e1 : j = b
  · subst e1; simp [upd]
  · by_cases e2 : j = a
    · subst e2; simp [upd, e1]
    · simp [upd, e1, e2]
set_option maxHeartbeats 4000000 in
set_option maxRecDepth 100000 in
theorem c_G_run (l : Launch) (E : gp_E) (I : Nat → Int32) (F : Nat → Nat → Int32) (np nt ns : Nat) (hp4 : I 4 = nI np) (hT : I 6 = nI nt) (hN : I 5 = nI ns) (hnp : np ≤ 4) (hnt : nt ≤ 6) (hns : ns ≤ 20) : gp_CW l y_G_run b_G_run 1 (some .int) 19 E (gp_wG E I F) (gp_wG E (gp_run np nt ns (I, F)).2.1 (gp_run np nt ns (I, F)).2.2) [.ref (E.2.2.2 0)] (some (.int (gp_run np nt ns (I, F)).1)) := by
  refine gp_ofW (by decide) (Nat.le_of_ble_eq_true rfl) ?_
  intro xp xe xs xm below meth xc ls A hx hb hr hts hown hlocks hml hP hK hD hA hAe hl
  have hS : va_S A xs.heap xs.heap [] := va_S.rf
  have hown : xs.vm.findClass "GuidePlans" = some xm.cls := hown
  have hl : lv_has ls 1 [(0, .ref (E.2.2.2 0))] := hl
  refine lv_aload_n hx hb d_G_run_0 rfl (lv_at hl 0 rfl) ?_
  refine va_get (D := E.1) (cl := gp_cl) (ci := 0) (v := .ref (E.2.2.2 2)) (C := R_G) (T := T_G) (N := 8) hx hb hts i_G hown hK hP 0 rfl rfl 1 (by decide) (hts _ w1_118) (fun _ h9 => h9) rfl d_G_run_1 ?_
  refine lv_aload_n hx hb d_G_run_4 rfl (lv_at hl 0 rfl) ?_
  refine va_get (D := E.1) (cl := gp_cl) (ci := 0) (v := .ref (E.2.2.2 1)) (C := R_G) (T := T_G) (N := 8) hx hb hts i_G hown hK hP 0 rfl rfl 0 (by decide) (hts _ w1_117) (fun _ h9 => h9) rfl d_G_run_5 ?_
  refine lv_aload_n hx hb d_G_run_8 rfl (lv_at hl 0 rfl) ?_
  refine va_get (D := E.1) (cl := gp_cl) (ci := 0) (v := .ref (E.2.2.2 17)) (C := R_G) (T := T_G) (N := 8) hx hb hts i_G hown hK hP 0 rfl rfl 2 (by decide) (hts _ w1_119) (fun _ h9 => h9) rfl d_G_run_9 ?_
  refine gp_cW (q0 := 2) (ci := 2) (As := [.ref (E.2.2.2 1), .ref (E.2.2.2 17)]) (rest := []) ⟨hx, hb, hml, hown, hts⟩ (c_S_findAnew l E I F np nt ns hp4 hT hN hnp hnt hns) (k_G_104 hts ⟨by decide, by decide⟩ rfl rfl) hK hP hD hS hA rfl rfl rfl rfl hl.1 rfl (Nat.le_of_ble_eq_true rfl) d_G_run_12 ⟨Nat.le_of_ble_eq_true rfl, Nat.le_of_ble_eq_true rfl⟩ (fun H locs hP hD hS => ?_)
  have hP : va_P E.1 gp_cl (gp_wG E (gp_fA np nt ns (I, F)).1 (gp_fA np nt ns (I, F)).2) H := hP
  have hD : va_D A (gp_wG E (gp_fA np nt ns (I, F)).1 (gp_fA np nt ns (I, F)).2) := hD
  refine W.eq (g2 := F0 xm 15 ls [.int (if (gp_fA np nt ns (I, F)).1 11 < 1000000 then 1 else 0)]) rfl ?_
  by_cases hs12 : (gp_fA np nt ns (I, F)).1 11 < 1000000
  · rw [show ((if (gp_fA np nt ns (I, F)).1 11 < 1000000 then 1 else 0) : Int32) = 1 from if_pos hs12]
    refine lv_if_ne (tgt := 40) hx hb d_G_run_15 (by decide) (fun c15 => ?_) (fun c15 => ?_)
    · have c15 := c15
      have nc15 : ¬ 1 = 0 := fun h => c15 ((nI_eq (a := 1) (b := 0) (by omega) (by omega)).mpr h)
      have e2 : gp_run np nt ns (I, F) = (gp_e2 ((gp_ad nt (gp_fA np nt ns (I, F))).2 14) nt np, gp_ad nt (gp_fA np nt ns (I, F))) := if_pos hs12
      refine lv_aload_n hx hb d_G_run_40 rfl (lv_at hl 0 rfl) ?_
      refine gp_cW (q0 := 0) (ci := 0) (As := []) (rest := []) ⟨hx, hb, hml, hown, hts⟩ (c_G_adoptFoundPlan l E (gp_fA np nt ns (I, F)).1 (gp_fA np nt ns (I, F)).2 nt (((gp_fA_kq (σ := (I, F))).1 6 (by decide)).trans hT) hnt) (k_G_112 hts ⟨by decide, by decide⟩ rfl rfl) hK hP hD hS hA rfl rfl rfl rfl hl.1 rfl (Nat.le_of_ble_eq_true rfl) d_G_run_41 ⟨Nat.le_of_ble_eq_true rfl, Nat.le_of_ble_eq_true rfl⟩ (fun H locs hP hD hS => ?_)
      have hP : va_P E.1 gp_cl (gp_wG E (upd (upd (gp_fA np nt ns (I, F)).1 3 1) 2 (-1)) (gp_uF (gp_fA np nt ns (I, F)).2 14 (fun j => if j < nt then (gp_fA np nt ns (I, F)).2 8 j else (gp_fA np nt ns (I, F)).2 14 j))) H := hP
      have hD : va_D A (gp_wG E (upd (upd (gp_fA np nt ns (I, F)).1 3 1) 2 (-1)) (gp_uF (gp_fA np nt ns (I, F)).2 14 (fun j => if j < nt then (gp_fA np nt ns (I, F)).2 8 j else (gp_fA np nt ns (I, F)).2 14 j))) := hD
      refine lv_aload_n hx hb d_G_run_44 rfl (lv_at hl 0 rfl) ?_
      refine gp_cR (q0 := 0) (ci := 0) (As := []) (rest := []) ⟨hx, hb, hml, hown, hts⟩ (c_G_planCost l E (upd (upd (gp_fA np nt ns (I, F)).1 3 1) 2 (-1)) (gp_uF (gp_fA np nt ns (I, F)).2 14 (fun j => if j < nt then (gp_fA np nt ns (I, F)).2 8 j else (gp_fA np nt ns (I, F)).2 14 j)) np nt (((gp_fA_kq (σ := (I, F))).1 4 (by decide)).trans hp4) hnp (((gp_fA_kq (σ := (I, F))).1 6 (by decide)).trans hT) hnt) (k_G_115 hts ⟨by decide, by decide⟩ rfl rfl) hK hP rfl rfl rfl hl.1 rfl (Nat.le_of_ble_eq_true rfl) d_G_run_45 ⟨Nat.le_of_ble_eq_true rfl, Nat.le_of_ble_eq_true rfl⟩ ?_
      exact gp_wi hx hb hr hlocks hAe (by rw [e2] <;> rfl) (by rw [e2]; exact hP) hS d_G_run_48
    · exact absurd c15 (by decide)
  · rw [show ((if (gp_fA np nt ns (I, F)).1 11 < 1000000 then 1 else 0) : Int32) = 0 from if_neg hs12]
    refine lv_if_ne (tgt := 40) hx hb d_G_run_15 (by decide) (fun c15 => ?_) (fun c15 => ?_)
    · exact absurd c15 (by decide)
    · have c15 := c15
      have nc15 : 0 = 0 := (nI_eq (a := 0) (b := 0) (by omega) (by omega)).mp c15
      have e2 : gp_run np nt ns (I, F) = (-1, gp_la np nt ns 0 (gp_fA np nt ns (I, F))) := if_neg hs12
      refine lv_aload_n hx hb d_G_run_18 rfl (lv_at hl 0 rfl) ?_
      refine lv_aload_n hx hb d_G_run_19 rfl (lv_at hl 0 rfl) ?_
      refine va_get (D := E.1) (cl := gp_cl) (ci := 0) (v := .ref (E.2.2.2 2)) (C := R_G) (T := T_G) (N := 8) hx hb hts i_G hown hK hP 0 rfl rfl 1 (by decide) (hts _ w1_118) (fun _ h9 => h9) rfl d_G_run_20 ?_
      refine lv_aload_n hx hb d_G_run_23 rfl (lv_at hl 0 rfl) ?_
      refine va_get (D := E.1) (cl := gp_cl) (ci := 0) (v := .ref (E.2.2.2 1)) (C := R_G) (T := T_G) (N := 8) hx hb hts i_G hown hK hP 0 rfl rfl 0 (by decide) (hts _ w1_117) (fun _ h9 => h9) rfl d_G_run_24 ?_
      refine lv_aload_n hx hb d_G_run_27 rfl (lv_at hl 0 rfl) ?_
      refine va_get (D := E.1) (cl := gp_cl) (ci := 0) (v := .ref (E.2.2.2 17)) (C := R_G) (T := T_G) (N := 8) hx hb hts i_G hown hK hP 0 rfl rfl 2 (by decide) (hts _ w1_119) (fun _ h9 => h9) rfl d_G_run_28 ?_
      refine lv_iconst (v := 0) hx hb d_G_run_31 (by decide) ?_
      refine gp_cW (q0 := 2) (ci := 2) (As := [.ref (E.2.2.2 1), .ref (E.2.2.2 17), .int 0]) (rest := [.ref (E.2.2.2 0)]) ⟨hx, hb, hml, hown, hts⟩ (c_S_firstLacking l E (gp_fA np nt ns (I, F)).1 (gp_fA np nt ns (I, F)).2 np nt ns 0 (((gp_fA_kq (σ := (I, F))).1 4 (by decide)).trans hp4) (((gp_fA_kq (σ := (I, F))).1 6 (by decide)).trans hT) (((gp_fA_kq (σ := (I, F))).1 5 (by decide)).trans hN) hnp hnt hns) (k_G_108 hts ⟨by decide, by decide⟩ rfl rfl) hK hP hD hS hA rfl rfl rfl rfl hl.1 rfl (Nat.le_of_ble_eq_true rfl) d_G_run_32 ⟨Nat.le_of_ble_eq_true rfl, Nat.le_of_ble_eq_true rfl⟩ (fun H locs hP hD hS => ?_)
      have hP : va_P E.1 gp_cl (gp_wG E (gp_fL np nt ns 0 (gp_fA np nt ns (I, F))).2.1 (gp_fL np nt ns 0 (gp_fA np nt ns (I, F))).2.2) H := hP
      have hD : va_D A (gp_wG E (gp_fL np nt ns 0 (gp_fA np nt ns (I, F))).2.1 (gp_fL np nt ns 0 (gp_fA np nt ns (I, F))).2.2) := hD
      refine W.eq (g2 := F0 xm 35 ls [.int (gp_fL np nt ns 0 (gp_fA np nt ns (I, F))).1, .ref (E.2.2.2 0)]) rfl ?_
      refine va_put (D := E.1) (cl := gp_cl) (ci := 0) (v := .int (gp_fL np nt ns 0 (gp_fA np nt ns (I, F))).1) (ty := .int) (C := R_G) (T := T_G) (N := 8) hx hb hts i_G t_G t_G_ok n_G hown hK hP hD hS 0 rfl rfl 6 (by decide) (hts _ w1_123) (fun _ h9 => h9) rfl (by decide +kernel) rfl rfl (Nat.le_of_ble_eq_true rfl) d_G_run_35 (fun H locs hP hD hS => ?_)
      have hP : va_P E.1 gp_cl (gp_wG E (upd (gp_fL np nt ns 0 (gp_fA np nt ns (I, F))).2.1 2 (gp_fL np nt ns 0 (gp_fA np nt ns (I, F))).1) (gp_fL np nt ns 0 (gp_fA np nt ns (I, F))).2.2) H := hP
      have hD : va_D A (gp_wG E (upd (gp_fL np nt ns 0 (gp_fA np nt ns (I, F))).2.1 2 (gp_fL np nt ns 0 (gp_fA np nt ns (I, F))).1) (gp_fL np nt ns 0 (gp_fA np nt ns (I, F))).2.2) := hD
      refine lv_iconst (v := (-1)) hx hb d_G_run_38 (by decide) ?_
      exact gp_wi hx hb hr hlocks hAe (by rw [e2] <;> rfl) (by rw [e2]; exact hP) hS d_G_run_39
set_option maxHeartbeats 4000000 in
set_option maxRecDepth 100000 in
theorem c_G_absent (l : Launch) (E : gp_E) (I : Nat → Int32) (F : Nat → Nat → Int32) (np nt ns : Nat) (x y : Int32) (hp4 : I 4 = nI np) (hT : I 6 = nI nt) (hN : I 5 = nI ns) (hnp : np ≤ 4) (hnt : nt ≤ 6) (hns : ns < 20) (h : gp_in x (I 4) = true) (s1 : ¬ y < 0) (s2 : ¬ 96 ≤ y) (hpl : ¬ I 3 = 0) : gp_CW l y_G_absent b_G_absent 3 (some .int) 19 E (gp_wG E I F) (gp_wG E (gp_abs np nt ns x y (I, F)).2.1 (gp_abs np nt ns x y (I, F)).2.2) [.ref (E.2.2.2 0), .int x, .int y] (some (.int (gp_abs np nt ns x y (I, F)).1)) := by
  refine gp_ofW (by decide) (Nat.le_of_ble_eq_true rfl) ?_
  intro xp xe xs xm below meth xc ls A hx hb hr hts hown hlocks hml hP hK hD hA hAe hl
  have hS : va_S A xs.heap xs.heap [] := va_S.rf
  have hown : xs.vm.findClass "GuidePlans" = some xm.cls := hown
  have hl : lv_has ls 3 [(0, .ref (E.2.2.2 0)), (1, .int x), (2, .int y)] := hl
  refine lv_aload_n hx hb d_G_absent_0 rfl (lv_at hl 0 rfl) ?_
  refine lv_iload_n hx hb d_G_absent_1 rfl (lv_at hl 1 rfl) ?_
  refine gp_cV0 (q0 := 0) (ci := 0) (As := [.int x]) (rest := []) ⟨hx, hb, hml, hown, hts⟩ (c_G_requirePerson l E I F x h) (k_G_63 hts ⟨by decide, by decide⟩ rfl rfl) hK hP rfl rfl rfl hl.1 rfl (Nat.le_of_ble_eq_true rfl) d_G_absent_2 ⟨Nat.le_of_ble_eq_true rfl, Nat.le_of_ble_eq_true rfl⟩ ?_
  refine lv_aload_n hx hb d_G_absent_5 rfl (lv_at hl 0 rfl) ?_
  refine lv_iload_n hx hb d_G_absent_6 rfl (lv_at hl 2 rfl) ?_
  refine lv_bipush (v := 96) hx hb d_G_absent_7 (by decide) ?_
  refine gp_cV0 (q0 := 0) (ci := 0) (As := [.int y, .int 96]) (rest := []) ⟨hx, hb, hml, hown, hts⟩ (c_G_requireSpan l E I F y 96 s1 s2 (by decide)) (k_G_67 hts ⟨by decide, by decide⟩ rfl rfl) hK hP rfl rfl rfl hl.1 rfl (Nat.le_of_ble_eq_true rfl) d_G_absent_9 ⟨Nat.le_of_ble_eq_true rfl, Nat.le_of_ble_eq_true rfl⟩ ?_
  refine lv_aload_n hx hb d_G_absent_12 rfl (lv_at hl 0 rfl) ?_
  refine gp_cV0 (q0 := 0) (ci := 0) (As := []) (rest := []) ⟨hx, hb, hml, hown, hts⟩ (c_G_requirePlan l E I F hpl) (k_G_122 hts ⟨by decide, by decide⟩ rfl rfl) hK hP rfl rfl rfl hl.1 rfl (Nat.le_of_ble_eq_true rfl) d_G_absent_13 ⟨Nat.le_of_ble_eq_true rfl, Nat.le_of_ble_eq_true rfl⟩ ?_
  refine lv_aload_n hx hb d_G_absent_16 rfl (lv_at hl 0 rfl) ?_
  refine gp_cV0 (q0 := 0) (ci := 0) (As := []) (rest := []) ⟨hx, hb, hml, hown, hts⟩ (c_G_requireRoomForSpan l E I F ns hN hns) (k_G_71 hts ⟨by decide, by decide⟩ rfl rfl) hK hP rfl rfl rfl hl.1 rfl (Nat.le_of_ble_eq_true rfl) d_G_absent_17 ⟨Nat.le_of_ble_eq_true rfl, Nat.le_of_ble_eq_true rfl⟩ ?_
  refine lv_aload_n hx hb d_G_absent_20 rfl (lv_at hl 0 rfl) ?_
  refine va_get (D := E.1) (cl := gp_cl) (ci := 0) (v := .ref (E.2.2.2 1)) (C := R_G) (T := T_G) (N := 8) hx hb hts i_G hown hK hP 0 rfl rfl 0 (by decide) (hts _ w1_117) (fun _ h9 => h9) rfl d_G_absent_21 ?_
  refine lv_iload_n hx hb d_G_absent_24 rfl (lv_at hl 1 rfl) ?_
  refine lv_iload_n hx hb d_G_absent_25 rfl (lv_at hl 2 rfl) ?_
  refine lv_bipush (v := 96) hx hb d_G_absent_26 (by decide) ?_
  refine gp_cW (q0 := 1) (ci := 1) (As := [.int x, .int y, .int 96]) (rest := []) ⟨hx, hb, hml, hown, hts⟩ (c_D_addSpan l E I F ns x y 96 hN hns) (k_G_74 hts ⟨by decide, by decide⟩ rfl rfl) hK hP hD hS hA rfl rfl rfl rfl hl.1 rfl (Nat.le_of_ble_eq_true rfl) d_G_absent_28 ⟨Nat.le_of_ble_eq_true rfl, Nat.le_of_ble_eq_true rfl⟩ (fun H locs hP hD hS => ?_)
  have hP : va_P E.1 gp_cl (gp_wG E (upd I 5 (nI (ns + 1))) (gp_uF (gp_uF (gp_uF F 1 (upd (F 1) ns x)) 2 (upd (F 2) ns y)) 3 (upd (F 3) ns 96))) H := hP
  have hD : va_D A (gp_wG E (upd I 5 (nI (ns + 1))) (gp_uF (gp_uF (gp_uF F 1 (upd (F 1) ns x)) 2 (upd (F 2) ns y)) 3 (upd (F 3) ns 96))) := hD
  refine lv_aload_n hx hb d_G_absent_31 rfl (lv_at hl 0 rfl) ?_
  refine va_get (D := E.1) (cl := gp_cl) (ci := 0) (v := .ref (E.2.2.2 2)) (C := R_G) (T := T_G) (N := 8) hx hb hts i_G hown hK hP 0 rfl rfl 1 (by decide) (hts _ w1_118) (fun _ h9 => h9) rfl d_G_absent_32 ?_
  refine lv_aload_n hx hb d_G_absent_35 rfl (lv_at hl 0 rfl) ?_
  refine va_get (D := E.1) (cl := gp_cl) (ci := 0) (v := .ref (E.2.2.2 1)) (C := R_G) (T := T_G) (N := 8) hx hb hts i_G hown hK hP 0 rfl rfl 0 (by decide) (hts _ w1_117) (fun _ h9 => h9) rfl d_G_absent_36 ?_
  refine lv_aload_n hx hb d_G_absent_39 rfl (lv_at hl 0 rfl) ?_
  refine va_get (D := E.1) (cl := gp_cl) (ci := 0) (v := .ref (E.2.2.2 17)) (C := R_G) (T := T_G) (N := 8) hx hb hts i_G hown hK hP 0 rfl rfl 2 (by decide) (hts _ w1_119) (fun _ h9 => h9) rfl d_G_absent_40 ?_
  refine lv_aload_n hx hb d_G_absent_43 rfl (lv_at hl 0 rfl) ?_
  refine va_get (D := E.1) (cl := gp_cl) (ci := 0) (v := .int (I 1)) (C := R_G) (T := T_G) (N := 8) hx hb hts i_G hown hK hP 0 rfl rfl 5 (by decide) (hts _ w1_122) (fun _ h9 => h9) rfl d_G_absent_44 ?_
  refine gp_cW (q0 := 2) (ci := 2) (As := [.ref (E.2.2.2 1), .ref (E.2.2.2 17), .int (I 1)]) (rest := []) ⟨hx, hb, hml, hown, hts⟩ (c_S_findNearest l E (upd I 5 (nI (ns + 1))) (gp_uF (gp_uF (gp_uF F 1 (upd (F 1) ns x)) 2 (upd (F 2) ns y)) 3 (upd (F 3) ns 96)) np nt (ns + 1) (I 1) hp4 hT rfl hnp hnt (by omega)) (k_G_125 hts ⟨by decide, by decide⟩ rfl rfl) hK hP hD hS hA rfl rfl rfl rfl hl.1 rfl (Nat.le_of_ble_eq_true rfl) d_G_absent_47 ⟨Nat.le_of_ble_eq_true rfl, Nat.le_of_ble_eq_true rfl⟩ (fun H locs hP hD hS => ?_)
  have hP : va_P E.1 gp_cl (gp_wG E (gp_fN np nt (ns + 1) (I 1) (gp_o1 ns x y (I, F))).1 (gp_fN np nt (ns + 1) (I 1) (gp_o1 ns x y (I, F))).2) H := hP
  have hD : va_D A (gp_wG E (gp_fN np nt (ns + 1) (I 1) (gp_o1 ns x y (I, F))).1 (gp_fN np nt (ns + 1) (I 1) (gp_o1 ns x y (I, F))).2) := hD
  refine W.eq (g2 := F0 xm 50 ls [.int (if (gp_fN np nt (ns + 1) (I 1) (gp_o1 ns x y (I, F))).1 11 < 1000000 then 1 else 0)]) rfl ?_
  by_cases hs47 : (gp_fN np nt (ns + 1) (I 1) (gp_o1 ns x y (I, F))).1 11 < 1000000
  · rw [show ((if (gp_fN np nt (ns + 1) (I 1) (gp_o1 ns x y (I, F))).1 11 < 1000000 then 1 else 0) : Int32) = 1 from if_pos hs47]
    refine lv_if_ne (tgt := 85) hx hb d_G_absent_50 (by decide) (fun c50 => ?_) (fun c50 => ?_)
    · have c50 := c50
      have nc50 : ¬ 1 = 0 := fun h => c50 ((nI_eq (a := 1) (b := 0) (by omega) (by omega)).mpr h)
      have e2 : gp_abs np nt ns x y (I, F) = (nI (gp_nc (gp_fN np nt (ns + 1) (I 1) (gp_o1 ns x y (I, F))).2 nt).1, gp_ad nt (gp_n1 nt (gp_fN np nt (ns + 1) (I 1) (gp_o1 ns x y (I, F))))) := if_pos hs47
      refine lv_aload_n hx hb d_G_absent_85 rfl (lv_at hl 0 rfl) ?_
      refine gp_cW (q0 := 0) (ci := 0) (As := []) (rest := []) ⟨hx, hb, hml, hown, hts⟩ (c_G_noteChanges l E (gp_fN np nt (ns + 1) (I 1) (gp_o1 ns x y (I, F))).1 (gp_fN np nt (ns + 1) (I 1) (gp_o1 ns x y (I, F))).2 nt (((gp_fN_kq (σ := (gp_o1 ns x y (I, F)))).1 6 (by decide)).trans hT) hnt) (k_G_132 hts ⟨by decide, by decide⟩ rfl rfl) hK hP hD hS hA rfl rfl rfl rfl hl.1 rfl (Nat.le_of_ble_eq_true rfl) d_G_absent_86 ⟨Nat.le_of_ble_eq_true rfl, Nat.le_of_ble_eq_true rfl⟩ (fun H locs hP hD hS => ?_)
      have hP : va_P E.1 gp_cl (gp_wG E (upd (gp_fN np nt (ns + 1) (I 1) (gp_o1 ns x y (I, F))).1 0 (nI (gp_nc (gp_fN np nt (ns + 1) (I 1) (gp_o1 ns x y (I, F))).2 nt).1)) (gp_uF (gp_fN np nt (ns + 1) (I 1) (gp_o1 ns x y (I, F))).2 15 (gp_nc (gp_fN np nt (ns + 1) (I 1) (gp_o1 ns x y (I, F))).2 nt).2)) H := hP
      have hD : va_D A (gp_wG E (upd (gp_fN np nt (ns + 1) (I 1) (gp_o1 ns x y (I, F))).1 0 (nI (gp_nc (gp_fN np nt (ns + 1) (I 1) (gp_o1 ns x y (I, F))).2 nt).1)) (gp_uF (gp_fN np nt (ns + 1) (I 1) (gp_o1 ns x y (I, F))).2 15 (gp_nc (gp_fN np nt (ns + 1) (I 1) (gp_o1 ns x y (I, F))).2 nt).2)) := hD
      refine lv_aload_n hx hb d_G_absent_89 rfl (lv_at hl 0 rfl) ?_
      refine gp_cW (q0 := 0) (ci := 0) (As := []) (rest := []) ⟨hx, hb, hml, hown, hts⟩ (c_G_adoptFoundPlan l E (upd (gp_fN np nt (ns + 1) (I 1) (gp_o1 ns x y (I, F))).1 0 (nI (gp_nc (gp_fN np nt (ns + 1) (I 1) (gp_o1 ns x y (I, F))).2 nt).1)) (gp_uF (gp_fN np nt (ns + 1) (I 1) (gp_o1 ns x y (I, F))).2 15 (gp_nc (gp_fN np nt (ns + 1) (I 1) (gp_o1 ns x y (I, F))).2 nt).2) nt (((gp_fN_kq (σ := (gp_o1 ns x y (I, F)))).1 6 (by decide)).trans hT) hnt) (k_G_112 hts ⟨by decide, by decide⟩ rfl rfl) hK hP hD hS hA rfl rfl rfl rfl hl.1 rfl (Nat.le_of_ble_eq_true rfl) d_G_absent_90 ⟨Nat.le_of_ble_eq_true rfl, Nat.le_of_ble_eq_true rfl⟩ (fun H locs hP hD hS => ?_)
      have hP : va_P E.1 gp_cl (gp_wG E (upd (upd (upd (gp_fN np nt (ns + 1) (I 1) (gp_o1 ns x y (I, F))).1 0 (nI (gp_nc (gp_fN np nt (ns + 1) (I 1) (gp_o1 ns x y (I, F))).2 nt).1)) 3 1) 2 (-1)) (gp_uF (gp_uF (gp_fN np nt (ns + 1) (I 1) (gp_o1 ns x y (I, F))).2 15 (gp_nc (gp_fN np nt (ns + 1) (I 1) (gp_o1 ns x y (I, F))).2 nt).2) 14 (fun j => if j < nt then (gp_fN np nt (ns + 1) (I 1) (gp_o1 ns x y (I, F))).2 8 j else (gp_fN np nt (ns + 1) (I 1) (gp_o1 ns x y (I, F))).2 14 j))) H := hP
      have hD : va_D A (gp_wG E (upd (upd (upd (gp_fN np nt (ns + 1) (I 1) (gp_o1 ns x y (I, F))).1 0 (nI (gp_nc (gp_fN np nt (ns + 1) (I 1) (gp_o1 ns x y (I, F))).2 nt).1)) 3 1) 2 (-1)) (gp_uF (gp_uF (gp_fN np nt (ns + 1) (I 1) (gp_o1 ns x y (I, F))).2 15 (gp_nc (gp_fN np nt (ns + 1) (I 1) (gp_o1 ns x y (I, F))).2 nt).2) 14 (fun j => if j < nt then (gp_fN np nt (ns + 1) (I 1) (gp_o1 ns x y (I, F))).2 8 j else (gp_fN np nt (ns + 1) (I 1) (gp_o1 ns x y (I, F))).2 14 j))) := hD
      refine lv_aload_n hx hb d_G_absent_93 rfl (lv_at hl 0 rfl) ?_
      refine va_get (D := E.1) (cl := gp_cl) (ci := 0) (v := .int (nI (gp_nc (gp_fN np nt (ns + 1) (I 1) (gp_o1 ns x y (I, F))).2 nt).1)) (C := R_G) (T := T_G) (N := 8) hx hb hts i_G hown hK hP 0 rfl rfl 4 (by decide) (hts _ w1_121) (fun _ h9 => h9) rfl d_G_absent_94 ?_
      exact gp_wi hx hb hr hlocks hAe (by rw [e2]) (by rw [e2]; exact hP) hS d_G_absent_97
    · exact absurd c50 (by decide)
  · rw [show ((if (gp_fN np nt (ns + 1) (I 1) (gp_o1 ns x y (I, F))).1 11 < 1000000 then 1 else 0) : Int32) = 0 from if_neg hs47]
    refine lv_if_ne (tgt := 85) hx hb d_G_absent_50 (by decide) (fun c50 => ?_) (fun c50 => ?_)
    · exact absurd c50 (by decide)
    · have c50 := c50
      have nc50 : 0 = 0 := (nI_eq (a := 0) (b := 0) (by omega) (by omega)).mp c50
      have e2 : gp_abs np nt ns x y (I, F) = (-1, (upd (gp_la np nt (ns + 1) (I 1) (gp_fN np nt (ns + 1) (I 1) (gp_o1 ns x y (I, F)))).1 5 (nI ns), (gp_la np nt (ns + 1) (I 1) (gp_fN np nt (ns + 1) (I 1) (gp_o1 ns x y (I, F)))).2)) := if_neg hs47
      refine lv_aload_n hx hb d_G_absent_53 rfl (lv_at hl 0 rfl) ?_
      refine lv_aload_n hx hb d_G_absent_54 rfl (lv_at hl 0 rfl) ?_
      refine va_get (D := E.1) (cl := gp_cl) (ci := 0) (v := .ref (E.2.2.2 2)) (C := R_G) (T := T_G) (N := 8) hx hb hts i_G hown hK hP 0 rfl rfl 1 (by decide) (hts _ w1_118) (fun _ h9 => h9) rfl d_G_absent_55 ?_
      refine lv_aload_n hx hb d_G_absent_58 rfl (lv_at hl 0 rfl) ?_
      refine va_get (D := E.1) (cl := gp_cl) (ci := 0) (v := .ref (E.2.2.2 1)) (C := R_G) (T := T_G) (N := 8) hx hb hts i_G hown hK hP 0 rfl rfl 0 (by decide) (hts _ w1_117) (fun _ h9 => h9) rfl d_G_absent_59 ?_
      refine lv_aload_n hx hb d_G_absent_62 rfl (lv_at hl 0 rfl) ?_
      refine va_get (D := E.1) (cl := gp_cl) (ci := 0) (v := .ref (E.2.2.2 17)) (C := R_G) (T := T_G) (N := 8) hx hb hts i_G hown hK hP 0 rfl rfl 2 (by decide) (hts _ w1_119) (fun _ h9 => h9) rfl d_G_absent_63 ?_
      refine lv_aload_n hx hb d_G_absent_66 rfl (lv_at hl 0 rfl) ?_
      refine va_get (D := E.1) (cl := gp_cl) (ci := 0) (v := .int ((gp_fN np nt (ns + 1) (I 1) (gp_o1 ns x y (I, F))).1 1)) (C := R_G) (T := T_G) (N := 8) hx hb hts i_G hown hK hP 0 rfl rfl 5 (by decide) (hts _ w1_122) (fun _ h9 => h9) rfl d_G_absent_67 ?_
      rw [show ((gp_fN np nt (ns + 1) (I 1) (gp_o1 ns x y (I, F))).1 1) = (I 1) from (gp_fN_kq (σ := (gp_o1 ns x y (I, F)))).1 1 (by decide)]
      refine gp_cW (q0 := 2) (ci := 2) (As := [.ref (E.2.2.2 1), .ref (E.2.2.2 17), .int (I 1)]) (rest := [.ref (E.2.2.2 0)]) ⟨hx, hb, hml, hown, hts⟩ (c_S_firstLacking l E (gp_fN np nt (ns + 1) (I 1) (gp_o1 ns x y (I, F))).1 (gp_fN np nt (ns + 1) (I 1) (gp_o1 ns x y (I, F))).2 np nt (ns + 1) (I 1) (((gp_fN_kq (σ := (gp_o1 ns x y (I, F)))).1 4 (by decide)).trans hp4) (((gp_fN_kq (σ := (gp_o1 ns x y (I, F)))).1 6 (by decide)).trans hT) (((gp_fN_kq (σ := (gp_o1 ns x y (I, F)))).1 5 (by decide)).trans rfl) hnp hnt (by omega)) (k_G_108 hts ⟨by decide, by decide⟩ rfl rfl) hK hP hD hS hA rfl rfl rfl rfl hl.1 rfl (Nat.le_of_ble_eq_true rfl) d_G_absent_70 ⟨Nat.le_of_ble_eq_true rfl, Nat.le_of_ble_eq_true rfl⟩ (fun H locs hP hD hS => ?_)
      have hP : va_P E.1 gp_cl (gp_wG E (gp_fL np nt (ns + 1) (I 1) (gp_fN np nt (ns + 1) (I 1) (gp_o1 ns x y (I, F)))).2.1 (gp_fL np nt (ns + 1) (I 1) (gp_fN np nt (ns + 1) (I 1) (gp_o1 ns x y (I, F)))).2.2) H := hP
      have hD : va_D A (gp_wG E (gp_fL np nt (ns + 1) (I 1) (gp_fN np nt (ns + 1) (I 1) (gp_o1 ns x y (I, F)))).2.1 (gp_fL np nt (ns + 1) (I 1) (gp_fN np nt (ns + 1) (I 1) (gp_o1 ns x y (I, F)))).2.2) := hD
      refine W.eq (g2 := F0 xm 73 ls [.int (gp_fL np nt (ns + 1) (I 1) (gp_fN np nt (ns + 1) (I 1) (gp_o1 ns x y (I, F)))).1, .ref (E.2.2.2 0)]) rfl ?_
      refine va_put (D := E.1) (cl := gp_cl) (ci := 0) (v := .int (gp_fL np nt (ns + 1) (I 1) (gp_fN np nt (ns + 1) (I 1) (gp_o1 ns x y (I, F)))).1) (ty := .int) (C := R_G) (T := T_G) (N := 8) hx hb hts i_G t_G t_G_ok n_G hown hK hP hD hS 0 rfl rfl 6 (by decide) (hts _ w1_123) (fun _ h9 => h9) rfl (by decide +kernel) rfl rfl (Nat.le_of_ble_eq_true rfl) d_G_absent_73 (fun H locs hP hD hS => ?_)
      have hP : va_P E.1 gp_cl (gp_wG E (upd (gp_fL np nt (ns + 1) (I 1) (gp_fN np nt (ns + 1) (I 1) (gp_o1 ns x y (I, F)))).2.1 2 (gp_fL np nt (ns + 1) (I 1) (gp_fN np nt (ns + 1) (I 1) (gp_o1 ns x y (I, F)))).1) (gp_fL np nt (ns + 1) (I 1) (gp_fN np nt (ns + 1) (I 1) (gp_o1 ns x y (I, F)))).2.2) H := hP
      have hD : va_D A (gp_wG E (upd (gp_fL np nt (ns + 1) (I 1) (gp_fN np nt (ns + 1) (I 1) (gp_o1 ns x y (I, F)))).2.1 2 (gp_fL np nt (ns + 1) (I 1) (gp_fN np nt (ns + 1) (I 1) (gp_o1 ns x y (I, F)))).1) (gp_fL np nt (ns + 1) (I 1) (gp_fN np nt (ns + 1) (I 1) (gp_o1 ns x y (I, F)))).2.2) := hD
      refine lv_aload_n hx hb d_G_absent_76 rfl (lv_at hl 0 rfl) ?_
      refine va_get (D := E.1) (cl := gp_cl) (ci := 0) (v := .ref (E.2.2.2 1)) (C := R_G) (T := T_G) (N := 8) hx hb hts i_G hown hK hP 0 rfl rfl 0 (by decide) (hts _ w1_117) (fun _ h9 => h9) rfl d_G_absent_77 ?_
      refine gp_cW (q0 := 1) (ci := 1) (As := []) (rest := []) ⟨hx, hb, hml, hown, hts⟩ (c_D_dropLatestSpan l E (upd (gp_fL np nt (ns + 1) (I 1) (gp_fN np nt (ns + 1) (I 1) (gp_o1 ns x y (I, F)))).2.1 2 (gp_fL np nt (ns + 1) (I 1) (gp_fN np nt (ns + 1) (I 1) (gp_o1 ns x y (I, F)))).1) (gp_fL np nt (ns + 1) (I 1) (gp_fN np nt (ns + 1) (I 1) (gp_o1 ns x y (I, F)))).2.2 ns (((gp_fL_kq (σ := (gp_fN np nt (ns + 1) (I 1) (gp_o1 ns x y (I, F))))).1 5 (by decide)).trans (((gp_fN_kq (σ := (gp_o1 ns x y (I, F)))).1 5 (by decide)).trans rfl)) hns) (k_G_129 hts ⟨by decide, by decide⟩ rfl rfl) hK hP hD hS hA rfl rfl rfl rfl hl.1 rfl (Nat.le_of_ble_eq_true rfl) d_G_absent_80 ⟨Nat.le_of_ble_eq_true rfl, Nat.le_of_ble_eq_true rfl⟩ (fun H locs hP hD hS => ?_)
      have hP : va_P E.1 gp_cl (gp_wG E (upd (upd (gp_fL np nt (ns + 1) (I 1) (gp_fN np nt (ns + 1) (I 1) (gp_o1 ns x y (I, F)))).2.1 2 (gp_fL np nt (ns + 1) (I 1) (gp_fN np nt (ns + 1) (I 1) (gp_o1 ns x y (I, F)))).1) 5 (nI ns)) (gp_fL np nt (ns + 1) (I 1) (gp_fN np nt (ns + 1) (I 1) (gp_o1 ns x y (I, F)))).2.2) H := hP
      have hD : va_D A (gp_wG E (upd (upd (gp_fL np nt (ns + 1) (I 1) (gp_fN np nt (ns + 1) (I 1) (gp_o1 ns x y (I, F)))).2.1 2 (gp_fL np nt (ns + 1) (I 1) (gp_fN np nt (ns + 1) (I 1) (gp_o1 ns x y (I, F)))).1) 5 (nI ns)) (gp_fL np nt (ns + 1) (I 1) (gp_fN np nt (ns + 1) (I 1) (gp_o1 ns x y (I, F)))).2.2) := hD
      refine lv_iconst (v := (-1)) hx hb d_G_absent_83 (by decide) ?_
      exact gp_wi hx hb hr hlocks hAe (by rw [e2]) (by rw [e2]; exact hP) hS d_G_absent_84
set_option maxHeartbeats 4000000 in
set_option maxRecDepth 100000 in
theorem x_G_absent1 (l : Launch) (E : gp_E) (I : Nat → Int32) (F : Nat → Nat → Int32) (x y : Int32) (hlt : l.stackTraces = false) (h : gp_in x (I 4) = false) : gx_CT l y_G_absent b_G_absent 3 (some .int) 7 E (gp_wG E I F) [.ref (E.2.2.2 0), .int x, .int y] "java/util/NoSuchElementException" := by
  refine gx_ofT (by decide) (Nat.le_of_ble_eq_true rfl) ?_
  intro xp xe xs xm below meth xc ls hx hb hr hts hown hlocks hml hem hP hK hSt hl
  have hown : xs.vm.findClass "GuidePlans" = some xm.cls := hown
  have hl : lv_has ls 3 [(0, .ref (E.2.2.2 0)), (1, .int x), (2, .int y)] := hl
  refine lv_aload_n hx hb d_G_absent_0 rfl (lv_at hl 0 rfl) ?_
  refine lv_iload_n hx hb d_G_absent_1 rfl (lv_at hl 1 rfl) ?_
  exact gx_cV (q0 := 0) (ci := 0) (As := [.int x]) (rest := []) ⟨hx, hb, hml, hown, hts⟩ (x_G_requirePerson l E I F x hlt h) (k_G_63 hts ⟨by decide, by decide⟩ rfl rfl) hK hP hSt rfl rfl rfl hl.1 rfl (Nat.le_of_ble_eq_true rfl) d_G_absent_2 ⟨Nat.le_of_ble_eq_true rfl, Nat.le_of_ble_eq_true rfl⟩ hem hlocks
set_option maxHeartbeats 4000000 in
set_option maxRecDepth 100000 in
theorem x_G_absent2 (l : Launch) (E : gp_E) (I : Nat → Int32) (F : Nat → Nat → Int32) (x y : Int32) (hlt : l.stackTraces = false) (h : gp_in x (I 4) = true) (hs : ¬ (¬ y < 0 ∧ ¬ 96 ≤ y)) : gx_CT l y_G_absent b_G_absent 3 (some .int) 7 E (gp_wG E I F) [.ref (E.2.2.2 0), .int x, .int y] "java/lang/IllegalArgumentException" := by
  refine gx_ofT (by decide) (Nat.le_of_ble_eq_true rfl) ?_
  intro xp xe xs xm below meth xc ls hx hb hr hts hown hlocks hml hem hP hK hSt hl
  have hown : xs.vm.findClass "GuidePlans" = some xm.cls := hown
  have hl : lv_has ls 3 [(0, .ref (E.2.2.2 0)), (1, .int x), (2, .int y)] := hl
  refine lv_aload_n hx hb d_G_absent_0 rfl (lv_at hl 0 rfl) ?_
  refine lv_iload_n hx hb d_G_absent_1 rfl (lv_at hl 1 rfl) ?_
  refine gp_cV0 (q0 := 0) (ci := 0) (As := [.int x]) (rest := []) ⟨hx, hb, hml, hown, hts⟩ (c_G_requirePerson l E I F x h) (k_G_63 hts ⟨by decide, by decide⟩ rfl rfl) hK hP rfl rfl rfl hl.1 rfl (Nat.le_of_ble_eq_true rfl) d_G_absent_2 ⟨Nat.le_of_ble_eq_true rfl, Nat.le_of_ble_eq_true rfl⟩ ?_
  refine lv_aload_n hx hb d_G_absent_5 rfl (lv_at hl 0 rfl) ?_
  refine lv_iload_n hx hb d_G_absent_6 rfl (lv_at hl 2 rfl) ?_
  refine lv_bipush (v := 96) hx hb d_G_absent_7 (by decide) ?_
  exact gx_cV (q0 := 0) (ci := 0) (As := [.int y, .int 96]) (rest := []) ⟨hx, hb, hml, hown, hts⟩ (x_G_requireSpan l E I F y 96 hlt (fun q => hs ⟨q.1, q.2.1⟩)) (k_G_67 hts ⟨by decide, by decide⟩ rfl rfl) hK hP hSt rfl rfl rfl hl.1 rfl (Nat.le_of_ble_eq_true rfl) d_G_absent_9 ⟨Nat.le_of_ble_eq_true rfl, Nat.le_of_ble_eq_true rfl⟩ hem hlocks
set_option maxHeartbeats 4000000 in
set_option maxRecDepth 100000 in
theorem x_G_absent3 (l : Launch) (E : gp_E) (I : Nat → Int32) (F : Nat → Nat → Int32) (x y : Int32) (hlt : l.stackTraces = false) (h : gp_in x (I 4) = true) (s1 : ¬ y < 0) (s2 : ¬ 96 ≤ y) (hpl : I 3 = 0) : gx_CT l y_G_absent b_G_absent 3 (some .int) 7 E (gp_wG E I F) [.ref (E.2.2.2 0), .int x, .int y] "java/lang/IllegalStateException" := by
  refine gx_ofT (by decide) (Nat.le_of_ble_eq_true rfl) ?_
  intro xp xe xs xm below meth xc ls hx hb hr hts hown hlocks hml hem hP hK hSt hl
  have hown : xs.vm.findClass "GuidePlans" = some xm.cls := hown
  have hl : lv_has ls 3 [(0, .ref (E.2.2.2 0)), (1, .int x), (2, .int y)] := hl
  refine lv_aload_n hx hb d_G_absent_0 rfl (lv_at hl 0 rfl) ?_
  refine lv_iload_n hx hb d_G_absent_1 rfl (lv_at hl 1 rfl) ?_
  refine gp_cV0 (q0 := 0) (ci := 0) (As := [.int x]) (rest := []) ⟨hx, hb, hml, hown, hts⟩ (c_G_requirePerson l E I F x h) (k_G_63 hts ⟨by decide, by decide⟩ rfl rfl) hK hP rfl rfl rfl hl.1 rfl (Nat.le_of_ble_eq_true rfl) d_G_absent_2 ⟨Nat.le_of_ble_eq_true rfl, Nat.le_of_ble_eq_true rfl⟩ ?_
  refine lv_aload_n hx hb d_G_absent_5 rfl (lv_at hl 0 rfl) ?_
  refine lv_iload_n hx hb d_G_absent_6 rfl (lv_at hl 2 rfl) ?_
  refine lv_bipush (v := 96) hx hb d_G_absent_7 (by decide) ?_
  refine gp_cV0 (q0 := 0) (ci := 0) (As := [.int y, .int 96]) (rest := []) ⟨hx, hb, hml, hown, hts⟩ (c_G_requireSpan l E I F y 96 s1 s2 (by decide)) (k_G_67 hts ⟨by decide, by decide⟩ rfl rfl) hK hP rfl rfl rfl hl.1 rfl (Nat.le_of_ble_eq_true rfl) d_G_absent_9 ⟨Nat.le_of_ble_eq_true rfl, Nat.le_of_ble_eq_true rfl⟩ ?_
  refine lv_aload_n hx hb d_G_absent_12 rfl (lv_at hl 0 rfl) ?_
  exact gx_cV (q0 := 0) (ci := 0) (As := []) (rest := []) ⟨hx, hb, hml, hown, hts⟩ (x_G_requirePlan l E I F hlt hpl) (k_G_122 hts ⟨by decide, by decide⟩ rfl rfl) hK hP hSt rfl rfl rfl hl.1 rfl (Nat.le_of_ble_eq_true rfl) d_G_absent_13 ⟨Nat.le_of_ble_eq_true rfl, Nat.le_of_ble_eq_true rfl⟩ hem hlocks
set_option maxHeartbeats 4000000 in
set_option maxRecDepth 100000 in
theorem x_G_absent4 (l : Launch) (E : gp_E) (I : Nat → Int32) (F : Nat → Nat → Int32) (x y : Int32) (hlt : l.stackTraces = false) (h : gp_in x (I 4) = true) (s1 : ¬ y < 0) (s2 : ¬ 96 ≤ y) (hpl : ¬ I 3 = 0) (hN : I 5 = nI 20) : gx_CT l y_G_absent b_G_absent 3 (some .int) 7 E (gp_wG E I F) [.ref (E.2.2.2 0), .int x, .int y] "java/lang/IllegalStateException" := by
  refine gx_ofT (by decide) (Nat.le_of_ble_eq_true rfl) ?_
  intro xp xe xs xm below meth xc ls hx hb hr hts hown hlocks hml hem hP hK hSt hl
  have hown : xs.vm.findClass "GuidePlans" = some xm.cls := hown
  have hl : lv_has ls 3 [(0, .ref (E.2.2.2 0)), (1, .int x), (2, .int y)] := hl
  refine lv_aload_n hx hb d_G_absent_0 rfl (lv_at hl 0 rfl) ?_
  refine lv_iload_n hx hb d_G_absent_1 rfl (lv_at hl 1 rfl) ?_
  refine gp_cV0 (q0 := 0) (ci := 0) (As := [.int x]) (rest := []) ⟨hx, hb, hml, hown, hts⟩ (c_G_requirePerson l E I F x h) (k_G_63 hts ⟨by decide, by decide⟩ rfl rfl) hK hP rfl rfl rfl hl.1 rfl (Nat.le_of_ble_eq_true rfl) d_G_absent_2 ⟨Nat.le_of_ble_eq_true rfl, Nat.le_of_ble_eq_true rfl⟩ ?_
  refine lv_aload_n hx hb d_G_absent_5 rfl (lv_at hl 0 rfl) ?_
  refine lv_iload_n hx hb d_G_absent_6 rfl (lv_at hl 2 rfl) ?_
  refine lv_bipush (v := 96) hx hb d_G_absent_7 (by decide) ?_
  refine gp_cV0 (q0 := 0) (ci := 0) (As := [.int y, .int 96]) (rest := []) ⟨hx, hb, hml, hown, hts⟩ (c_G_requireSpan l E I F y 96 s1 s2 (by decide)) (k_G_67 hts ⟨by decide, by decide⟩ rfl rfl) hK hP rfl rfl rfl hl.1 rfl (Nat.le_of_ble_eq_true rfl) d_G_absent_9 ⟨Nat.le_of_ble_eq_true rfl, Nat.le_of_ble_eq_true rfl⟩ ?_
  refine lv_aload_n hx hb d_G_absent_12 rfl (lv_at hl 0 rfl) ?_
  refine gp_cV0 (q0 := 0) (ci := 0) (As := []) (rest := []) ⟨hx, hb, hml, hown, hts⟩ (c_G_requirePlan l E I F hpl) (k_G_122 hts ⟨by decide, by decide⟩ rfl rfl) hK hP rfl rfl rfl hl.1 rfl (Nat.le_of_ble_eq_true rfl) d_G_absent_13 ⟨Nat.le_of_ble_eq_true rfl, Nat.le_of_ble_eq_true rfl⟩ ?_
  refine lv_aload_n hx hb d_G_absent_16 rfl (lv_at hl 0 rfl) ?_
  exact gx_cV (q0 := 0) (ci := 0) (As := []) (rest := []) ⟨hx, hb, hml, hown, hts⟩ (x_G_requireRoomForSpan l E I F hlt hN) (k_G_71 hts ⟨by decide, by decide⟩ rfl rfl) hK hP hSt rfl rfl rfl hl.1 rfl (Nat.le_of_ble_eq_true rfl) d_G_absent_17 ⟨Nat.le_of_ble_eq_true rfl, Nat.le_of_ble_eq_true rfl⟩ hem hlocks
set_option maxHeartbeats 4000000 in
set_option maxRecDepth 100000 in
theorem x_G_swap1 (l : Launch) (E : gp_E) (I : Nat → Int32) (F : Nat → Nat → Int32) (x y : Int32) (hlt : l.stackTraces = false) (h : gp_in x (I 6) = false) : gx_CT l y_G_swap b_G_swap 6 (some .int) 7 E (gp_wG E I F) [.ref (E.2.2.2 0), .int x, .int y] "java/util/NoSuchElementException" := by
  refine gx_ofT (by decide) (Nat.le_of_ble_eq_true rfl) ?_
  intro xp xe xs xm below meth xc ls hx hb hr hts hown hlocks hml hem hP hK hSt hl
  have hown : xs.vm.findClass "GuidePlans" = some xm.cls := hown
  have hl : lv_has ls 6 [(0, .ref (E.2.2.2 0)), (1, .int x), (2, .int y)] := hl
  refine lv_aload_n hx hb d_G_swap_0 rfl (lv_at hl 0 rfl) ?_
  refine lv_iload_n hx hb d_G_swap_1 rfl (lv_at hl 1 rfl) ?_
  exact gx_cV (q0 := 0) (ci := 0) (As := [.int x]) (rest := []) ⟨hx, hb, hml, hown, hts⟩ (x_G_requireTask l E I F x hlt h) (k_G_119 hts ⟨by decide, by decide⟩ rfl rfl) hK hP hSt rfl rfl rfl hl.1 rfl (Nat.le_of_ble_eq_true rfl) d_G_swap_2 ⟨Nat.le_of_ble_eq_true rfl, Nat.le_of_ble_eq_true rfl⟩ hem hlocks
set_option maxHeartbeats 4000000 in
set_option maxRecDepth 100000 in
theorem x_G_swap2 (l : Launch) (E : gp_E) (I : Nat → Int32) (F : Nat → Nat → Int32) (x y : Int32) (hlt : l.stackTraces = false) (h1 : gp_in x (I 6) = true) (h : gp_in y (I 6) = false) : gx_CT l y_G_swap b_G_swap 6 (some .int) 7 E (gp_wG E I F) [.ref (E.2.2.2 0), .int x, .int y] "java/util/NoSuchElementException" := by
  refine gx_ofT (by decide) (Nat.le_of_ble_eq_true rfl) ?_
  intro xp xe xs xm below meth xc ls hx hb hr hts hown hlocks hml hem hP hK hSt hl
  have hown : xs.vm.findClass "GuidePlans" = some xm.cls := hown
  have hl : lv_has ls 6 [(0, .ref (E.2.2.2 0)), (1, .int x), (2, .int y)] := hl
  refine lv_aload_n hx hb d_G_swap_0 rfl (lv_at hl 0 rfl) ?_
  refine lv_iload_n hx hb d_G_swap_1 rfl (lv_at hl 1 rfl) ?_
  refine gp_cV0 (q0 := 0) (ci := 0) (As := [.int x]) (rest := []) ⟨hx, hb, hml, hown, hts⟩ (c_G_requireTask l E I F x h1) (k_G_119 hts ⟨by decide, by decide⟩ rfl rfl) hK hP rfl rfl rfl hl.1 rfl (Nat.le_of_ble_eq_true rfl) d_G_swap_2 ⟨Nat.le_of_ble_eq_true rfl, Nat.le_of_ble_eq_true rfl⟩ ?_
  refine lv_aload_n hx hb d_G_swap_5 rfl (lv_at hl 0 rfl) ?_
  refine lv_iload_n hx hb d_G_swap_6 rfl (lv_at hl 2 rfl) ?_
  exact gx_cV (q0 := 0) (ci := 0) (As := [.int y]) (rest := []) ⟨hx, hb, hml, hown, hts⟩ (x_G_requireTask l E I F y hlt h) (k_G_119 hts ⟨by decide, by decide⟩ rfl rfl) hK hP hSt rfl rfl rfl hl.1 rfl (Nat.le_of_ble_eq_true rfl) d_G_swap_7 ⟨Nat.le_of_ble_eq_true rfl, Nat.le_of_ble_eq_true rfl⟩ hem hlocks
set_option maxHeartbeats 4000000 in
set_option maxRecDepth 100000 in
theorem x_G_swap3 (l : Launch) (E : gp_E) (I : Nat → Int32) (F : Nat → Nat → Int32) (x y : Int32) (hlt : l.stackTraces = false) (h1 : gp_in x (I 6) = true) (h : gp_in y (I 6) = true) (hpl : I 3 = 0) : gx_CT l y_G_swap b_G_swap 6 (some .int) 7 E (gp_wG E I F) [.ref (E.2.2.2 0), .int x, .int y] "java/lang/IllegalStateException" := by
  refine gx_ofT (by decide) (Nat.le_of_ble_eq_true rfl) ?_
  intro xp xe xs xm below meth xc ls hx hb hr hts hown hlocks hml hem hP hK hSt hl
  have hown : xs.vm.findClass "GuidePlans" = some xm.cls := hown
  have hl : lv_has ls 6 [(0, .ref (E.2.2.2 0)), (1, .int x), (2, .int y)] := hl
  refine lv_aload_n hx hb d_G_swap_0 rfl (lv_at hl 0 rfl) ?_
  refine lv_iload_n hx hb d_G_swap_1 rfl (lv_at hl 1 rfl) ?_
  refine gp_cV0 (q0 := 0) (ci := 0) (As := [.int x]) (rest := []) ⟨hx, hb, hml, hown, hts⟩ (c_G_requireTask l E I F x h1) (k_G_119 hts ⟨by decide, by decide⟩ rfl rfl) hK hP rfl rfl rfl hl.1 rfl (Nat.le_of_ble_eq_true rfl) d_G_swap_2 ⟨Nat.le_of_ble_eq_true rfl, Nat.le_of_ble_eq_true rfl⟩ ?_
  refine lv_aload_n hx hb d_G_swap_5 rfl (lv_at hl 0 rfl) ?_
  refine lv_iload_n hx hb d_G_swap_6 rfl (lv_at hl 2 rfl) ?_
  refine gp_cV0 (q0 := 0) (ci := 0) (As := [.int y]) (rest := []) ⟨hx, hb, hml, hown, hts⟩ (c_G_requireTask l E I F y h) (k_G_119 hts ⟨by decide, by decide⟩ rfl rfl) hK hP rfl rfl rfl hl.1 rfl (Nat.le_of_ble_eq_true rfl) d_G_swap_7 ⟨Nat.le_of_ble_eq_true rfl, Nat.le_of_ble_eq_true rfl⟩ ?_
  refine lv_aload_n hx hb d_G_swap_10 rfl (lv_at hl 0 rfl) ?_
  exact gx_cV (q0 := 0) (ci := 0) (As := []) (rest := []) ⟨hx, hb, hml, hown, hts⟩ (x_G_requirePlan l E I F hlt hpl) (k_G_122 hts ⟨by decide, by decide⟩ rfl rfl) hK hP hSt rfl rfl rfl hl.1 rfl (Nat.le_of_ble_eq_true rfl) d_G_swap_11 ⟨Nat.le_of_ble_eq_true rfl, Nat.le_of_ble_eq_true rfl⟩ hem hlocks
end
section
set_option maxHeartbeats 4000000 in
set_option maxRecDepth 100000 in
theorem c_G_swap (l : Launch) (E : gp_E) (I : Nat → Int32) (F : Nat → Nat → Int32) (np nt ns a b : Nat) (hp4 : I 4 = nI np) (hT : I 6 = nI nt) (hN : I 5 = nI ns) (hnp : np ≤ 4) (hnt : nt ≤ 6) (hns : ns ≤ 20) (ha : a < nt) (hb2 : b < nt) (hva : F 14 a = -1 ∨ ∃ p, p < np ∧ F 14 a = nI p) (hvb : F 14 b = -1 ∨ ∃ p, p < np ∧ F 14 b = nI p) (hpl : ¬ I 3 = 0) : gp_CW l y_G_swap b_G_swap 6 (some .int) 6 E (gp_wG E I F) (gp_wG E I (gp_sw I F ns nt a b)) [.ref (E.2.2.2 0), .int (nI a), .int (nI b)] (some (.int (gp_swr I F ns nt a b))) := by
  refine gp_ofW (by decide) (Nat.le_of_ble_eq_true rfl) ?_
  intro xp xe xs xm below meth xc ls A hx hb hr hts hown hlocks hml hP hK hD hA hAe hl
  have hS : va_S A xs.heap xs.heap [] := va_S.rf
  have hown : xs.vm.findClass "GuidePlans" = some xm.cls := hown
  have hl : lv_has ls 6 [(0, .ref (E.2.2.2 0)), (1, .int (nI a)), (2, .int (nI b))] := hl
  refine lv_aload_n hx hb d_G_swap_0 rfl (lv_at hl 0 rfl) ?_
  refine lv_iload_n hx hb d_G_swap_1 rfl (lv_at hl 1 rfl) ?_
  refine gp_cV0 (q0 := 0) (ci := 0) (As := [.int (nI a)]) (rest := []) ⟨hx, hb, hml, hown, hts⟩ (c_G_requireTask l E I F (nI a) (by rw [hT]; exact gp_in_1 ha (by omega))) (k_G_119 hts ⟨by decide, by decide⟩ rfl rfl) hK hP rfl rfl rfl hl.1 rfl (Nat.le_of_ble_eq_true rfl) d_G_swap_2 ⟨Nat.le_of_ble_eq_true rfl, Nat.le_of_ble_eq_true rfl⟩ ?_
  refine lv_aload_n hx hb d_G_swap_5 rfl (lv_at hl 0 rfl) ?_
  refine lv_iload_n hx hb d_G_swap_6 rfl (lv_at hl 2 rfl) ?_
  refine gp_cV0 (q0 := 0) (ci := 0) (As := [.int (nI b)]) (rest := []) ⟨hx, hb, hml, hown, hts⟩ (c_G_requireTask l E I F (nI b) (by rw [hT]; exact gp_in_1 hb2 (by omega))) (k_G_119 hts ⟨by decide, by decide⟩ rfl rfl) hK hP rfl rfl rfl hl.1 rfl (Nat.le_of_ble_eq_true rfl) d_G_swap_7 ⟨Nat.le_of_ble_eq_true rfl, Nat.le_of_ble_eq_true rfl⟩ ?_
  refine lv_aload_n hx hb d_G_swap_10 rfl (lv_at hl 0 rfl) ?_
  refine gp_cV0 (q0 := 0) (ci := 0) (As := []) (rest := []) ⟨hx, hb, hml, hown, hts⟩ (c_G_requirePlan l E I F hpl) (k_G_122 hts ⟨by decide, by decide⟩ rfl rfl) hK hP rfl rfl rfl hl.1 rfl (Nat.le_of_ble_eq_true rfl) d_G_swap_11 ⟨Nat.le_of_ble_eq_true rfl, Nat.le_of_ble_eq_true rfl⟩ ?_
  refine lv_aload_n hx hb d_G_swap_14 rfl (lv_at hl 0 rfl) ?_
  refine va_get (D := E.1) (cl := gp_cl) (ci := 0) (v := .ref (E.2.2.2 1)) (C := R_G) (T := T_G) (N := 8) hx hb hts i_G hown hK hP 0 rfl rfl 0 (by decide) (hts _ w1_117) (fun _ h9 => h9) rfl d_G_swap_15 ?_
  refine va_get (D := E.1) (cl := gp_cl) (ci := 1) (v := .ref (E.2.2.2 8)) (C := R_D) (T := T_D) (N := 13) hx hb hts i_D hown hK hP 1 rfl rfl 5 (by decide) (hts _ w1_34) (fun _ h9 => h9) rfl d_G_swap_18 ?_
  refine lv_iload_n hx hb d_G_swap_21 rfl (lv_at hl 1 rfl) ?_
  refine gp_ald (f := (F 5)) (n := 6) hx hb hK hP 8 rfl (a) rfl (by omega) (by decide) d_G_swap_22 ?_
  refine lv_aload_n hx hb d_G_swap_23 rfl (lv_at hl 0 rfl) ?_
  refine va_get (D := E.1) (cl := gp_cl) (ci := 0) (v := .int (I 1)) (C := R_G) (T := T_G) (N := 8) hx hb hts i_G hown hK hP 0 rfl rfl 5 (by decide) (hts _ w1_122) (fun _ h9 => h9) rfl d_G_swap_24 ?_
  refine lv_icmp_lt (tgt := 46) hx hb d_G_swap_27 (by decide) (fun c27 => ?_) (fun c27 => ?_)
  · have c27 := c27
    have mc27 : ¬ (I 1) ≤ ((F 5) (a)) := Int32.not_le.mpr c27
    refine lv_iconst (v := 1) hx hb d_G_swap_46 (by decide) ?_
    exact gp_wi hx hb hr hlocks hAe (by rw [gp_swr, if_pos (by first | exact Or.inl c27 | exact Or.inr mc43 | exact Or.inr (Int32.not_le.mp c43))]) (by rw [gp_sw, if_neg (by rw [gp_swr, if_pos (by first | exact Or.inl c27 | exact Or.inr mc43 | exact Or.inr (Int32.not_le.mp c43))]; decide)]; exact hP) hS d_G_swap_47
  · have c27 := c27
    have mc27 : (I 1) ≤ ((F 5) (a)) := Int32.not_lt.mp c27
    refine lv_aload_n hx hb d_G_swap_30 rfl (lv_at hl 0 rfl) ?_
    refine va_get (D := E.1) (cl := gp_cl) (ci := 0) (v := .ref (E.2.2.2 1)) (C := R_G) (T := T_G) (N := 8) hx hb hts i_G hown hK hP 0 rfl rfl 0 (by decide) (hts _ w1_117) (fun _ h9 => h9) rfl d_G_swap_31 ?_
    refine va_get (D := E.1) (cl := gp_cl) (ci := 1) (v := .ref (E.2.2.2 8)) (C := R_D) (T := T_D) (N := 13) hx hb hts i_D hown hK hP 1 rfl rfl 5 (by decide) (hts _ w1_34) (fun _ h9 => h9) rfl d_G_swap_34 ?_
    refine lv_iload_n hx hb d_G_swap_37 rfl (lv_at hl 2 rfl) ?_
    refine gp_ald (f := (F 5)) (n := 6) hx hb hK hP 8 rfl (b) rfl (by omega) (by decide) d_G_swap_38 ?_
    refine lv_aload_n hx hb d_G_swap_39 rfl (lv_at hl 0 rfl) ?_
    refine va_get (D := E.1) (cl := gp_cl) (ci := 0) (v := .int (I 1)) (C := R_G) (T := T_G) (N := 8) hx hb hts i_G hown hK hP 0 rfl rfl 5 (by decide) (hts _ w1_122) (fun _ h9 => h9) rfl d_G_swap_40 ?_
    refine lv_icmp_ge (tgt := 48) hx hb d_G_swap_43 (by decide) (fun c43 => ?_) (fun c43 => ?_)
    · have c43 := c43
      have mc43 : ¬ ((F 5) (b)) < (I 1) := Int32.not_lt.mpr c43
      refine lv_aload_n hx hb d_G_swap_48 rfl (lv_at hl 0 rfl) ?_
      refine va_get (D := E.1) (cl := gp_cl) (ci := 0) (v := .ref (E.2.2.2 17)) (C := R_G) (T := T_G) (N := 8) hx hb hts i_G hown hK hP 0 rfl rfl 2 (by decide) (hts _ w1_119) (fun _ h9 => h9) rfl d_G_swap_49 ?_
      refine lv_iload_n hx hb d_G_swap_52 rfl (lv_at hl 1 rfl) ?_
      refine gp_ald (f := (F 14)) (n := 6) hx hb hK hP 17 rfl (a) rfl (by omega) (by decide) d_G_swap_53 ?_
      refine lv_istore_n (lv' := [(3, .int ((F 14) (a))), (0, .ref (E.2.2.2 0)), (1, .int (nI a)), (2, .int (nI b))]) hx hb d_G_swap_54 rfl hl (by decide) rfl (fun ls hl => ?_)
      refine lv_aload_n hx hb d_G_swap_55 rfl (lv_at hl 1 rfl) ?_
      refine va_get (D := E.1) (cl := gp_cl) (ci := 0) (v := .ref (E.2.2.2 17)) (C := R_G) (T := T_G) (N := 8) hx hb hts i_G hown hK hP 0 rfl rfl 2 (by decide) (hts _ w1_119) (fun _ h9 => h9) rfl d_G_swap_56 ?_
      refine lv_iload_n hx hb d_G_swap_59 rfl (lv_at hl 3 rfl) ?_
      refine gp_ald (f := (F 14)) (n := 6) hx hb hK hP 17 rfl (b) rfl (by omega) (by decide) d_G_swap_60 ?_
      refine lv_istore (lv' := [(4, .int ((F 14) (b))), (3, .int ((F 14) (a))), (0, .ref (E.2.2.2 0)), (1, .int (nI a)), (2, .int (nI b))]) hx hb d_G_swap_61 hl (by decide) rfl (fun ls hl => ?_)
      refine lv_aload_n hx hb d_G_swap_63 rfl (lv_at hl 2 rfl) ?_
      refine lv_iload_n hx hb d_G_swap_64 rfl (lv_at hl 3 rfl) ?_
      refine lv_iload hx hb d_G_swap_65 (lv_at hl 0 rfl) ?_
      refine gp_cR (q0 := 0) (ci := 0) (As := [.int (nI a), .int ((F 14) (b))]) (rest := []) ⟨hx, hb, hml, hown, hts⟩ (show gp_CR _ _ _ _ _ _ _ _ _ (if gp_emp F a (F 14 b) then 1 else 0) from c_G_empties l E I F a (F 14 b) (by omega)) (k_G_140 hts ⟨by decide, by decide⟩ rfl rfl) hK hP rfl rfl rfl hl.1 rfl (Nat.le_of_ble_eq_true rfl) d_G_swap_67 ⟨Nat.le_of_ble_eq_true rfl, Nat.le_of_ble_eq_true rfl⟩ ?_
      by_cases hs67 : gp_emp F a (F 14 b) = true
      · rw [show ((if gp_emp F a (F 14 b) then 1 else 0) : Int32) = 1 from if_pos hs67]
        refine lv_if_ne (tgt := 82) hx hb d_G_swap_70 (by decide) (fun c70 => ?_) (fun c70 => ?_)
        · have c70 := c70
          have nc70 : ¬ 1 = 0 := fun h => c70 ((nI_eq (a := 1) (b := 0) (by omega) (by omega)).mpr h)
          refine lv_iconst (v := 2) hx hb d_G_swap_82 (by decide) ?_
          exact gp_wi hx hb hr hlocks hAe (by rw [gp_swr, if_neg (fun q => q.elim (fun z => c27 z) (fun z => by first | exact mc43 z | exact (Int32.not_le.mpr z) c43)), if_pos (by first | exact Or.inl hs67 | exact Or.inr hs76)]) (by rw [gp_sw, if_neg (by rw [gp_swr, if_neg (fun q => q.elim (fun z => c27 z) (fun z => by first | exact mc43 z | exact (Int32.not_le.mpr z) c43)), if_pos (by first | exact Or.inl hs67 | exact Or.inr hs76)]; decide)]; exact hP) hS d_G_swap_83
        · exact absurd c70 (by decide)
      · rw [show ((if gp_emp F a (F 14 b) then 1 else 0) : Int32) = 0 from if_neg hs67]
        refine lv_if_ne (tgt := 82) hx hb d_G_swap_70 (by decide) (fun c70 => ?_) (fun c70 => ?_)
        · exact absurd c70 (by decide)
        · have c70 := c70
          have nc70 : 0 = 0 := (nI_eq (a := 0) (b := 0) (by omega) (by omega)).mp c70
          refine lv_aload_n hx hb d_G_swap_73 rfl (lv_at hl 2 rfl) ?_
          refine lv_iload_n hx hb d_G_swap_74 rfl (lv_at hl 4 rfl) ?_
          refine lv_iload_n hx hb d_G_swap_75 rfl (lv_at hl 1 rfl) ?_
          refine gp_cR (q0 := 0) (ci := 0) (As := [.int (nI b), .int ((F 14) (a))]) (rest := []) ⟨hx, hb, hml, hown, hts⟩ (show gp_CR _ _ _ _ _ _ _ _ _ (if gp_emp F b (F 14 a) then 1 else 0) from c_G_empties l E I F b (F 14 a) (by omega)) (k_G_140 hts ⟨by decide, by decide⟩ rfl rfl) hK hP rfl rfl rfl hl.1 rfl (Nat.le_of_ble_eq_true rfl) d_G_swap_76 ⟨Nat.le_of_ble_eq_true rfl, Nat.le_of_ble_eq_true rfl⟩ ?_
          by_cases hs76 : gp_emp F b (F 14 a) = true
          · rw [show ((if gp_emp F b (F 14 a) then 1 else 0) : Int32) = 1 from if_pos hs76]
            refine lv_if_eq (tgt := 84) hx hb d_G_swap_79 (by decide) (fun c79 => ?_) (fun c79 => ?_)
            · exact absurd c79 (by decide)
            · have c79 := c79
              have nc79 : ¬ 1 = 0 := fun h => c79 ((nI_eq (a := 1) (b := 0) (by omega) (by omega)).mpr h)
              refine lv_iconst (v := 2) hx hb d_G_swap_82 (by decide) ?_
              exact gp_wi hx hb hr hlocks hAe (by rw [gp_swr, if_neg (fun q => q.elim (fun z => c27 z) (fun z => by first | exact mc43 z | exact (Int32.not_le.mpr z) c43)), if_pos (by first | exact Or.inl hs67 | exact Or.inr hs76)]) (by rw [gp_sw, if_neg (by rw [gp_swr, if_neg (fun q => q.elim (fun z => c27 z) (fun z => by first | exact mc43 z | exact (Int32.not_le.mpr z) c43)), if_pos (by first | exact Or.inl hs67 | exact Or.inr hs76)]; decide)]; exact hP) hS d_G_swap_83
          · rw [show ((if gp_emp F b (F 14 a) then 1 else 0) : Int32) = 0 from if_neg hs76]
            refine lv_if_eq (tgt := 84) hx hb d_G_swap_79 (by decide) (fun c79 => ?_) (fun c79 => ?_)
            · have c79 := c79
              have nc79 : 0 = 0 := (nI_eq (a := 0) (b := 0) (by omega) (by omega)).mp c79
              refine lv_aload_n hx hb d_G_swap_84 rfl (lv_at hl 2 rfl) ?_
              refine lv_iload_n hx hb d_G_swap_85 rfl (lv_at hl 3 rfl) ?_
              refine lv_iload hx hb d_G_swap_86 (lv_at hl 0 rfl) ?_
              refine gp_cR (q0 := 0) (ci := 0) (As := [.int (nI a), .int ((F 14) (b))]) (rest := []) ⟨hx, hb, hml, hown, hts⟩ (c_G_isUnsuited l E I F np nt ns a (F 14 b) hp4 hT hN hnp hnt hns (by omega) hvb) (k_G_144 hts ⟨by decide, by decide⟩ rfl rfl) hK hP rfl rfl rfl hl.1 rfl (Nat.le_of_ble_eq_true rfl) d_G_swap_88 ⟨Nat.le_of_ble_eq_true rfl, Nat.le_of_ble_eq_true rfl⟩ ?_
              by_cases hs88 : gp_uns F ns (F 14 b) a = true
              · rw [show ((if gp_uns F ns (F 14 b) a then 1 else 0) : Int32) = 1 from if_pos hs88]
                refine lv_if_ne (tgt := 103) hx hb d_G_swap_91 (by decide) (fun c91 => ?_) (fun c91 => ?_)
                · have c91 := c91
                  have nc91 : ¬ 1 = 0 := fun h => c91 ((nI_eq (a := 1) (b := 0) (by omega) (by omega)).mpr h)
                  refine lv_iconst (v := 3) hx hb d_G_swap_103 (by decide) ?_
                  exact gp_wi hx hb hr hlocks hAe (by rw [gp_swr, if_neg (fun q => q.elim (fun z => c27 z) (fun z => by first | exact mc43 z | exact (Int32.not_le.mpr z) c43)), if_neg (fun q => q.elim hs67 hs76), if_pos (by first | exact Or.inl hs88 | exact Or.inr hs97)]) (by rw [gp_sw, if_neg (by rw [gp_swr, if_neg (fun q => q.elim (fun z => c27 z) (fun z => by first | exact mc43 z | exact (Int32.not_le.mpr z) c43)), if_neg (fun q => q.elim hs67 hs76), if_pos (by first | exact Or.inl hs88 | exact Or.inr hs97)]; decide)]; exact hP) hS d_G_swap_104
                · exact absurd c91 (by decide)
              · rw [show ((if gp_uns F ns (F 14 b) a then 1 else 0) : Int32) = 0 from if_neg hs88]
                refine lv_if_ne (tgt := 103) hx hb d_G_swap_91 (by decide) (fun c91 => ?_) (fun c91 => ?_)
                · exact absurd c91 (by decide)
                · have c91 := c91
                  have nc91 : 0 = 0 := (nI_eq (a := 0) (b := 0) (by omega) (by omega)).mp c91
                  refine lv_aload_n hx hb d_G_swap_94 rfl (lv_at hl 2 rfl) ?_
                  refine lv_iload_n hx hb d_G_swap_95 rfl (lv_at hl 4 rfl) ?_
                  refine lv_iload_n hx hb d_G_swap_96 rfl (lv_at hl 1 rfl) ?_
                  refine gp_cR (q0 := 0) (ci := 0) (As := [.int (nI b), .int ((F 14) (a))]) (rest := []) ⟨hx, hb, hml, hown, hts⟩ (c_G_isUnsuited l E I F np nt ns b (F 14 a) hp4 hT hN hnp hnt hns (by omega) hva) (k_G_144 hts ⟨by decide, by decide⟩ rfl rfl) hK hP rfl rfl rfl hl.1 rfl (Nat.le_of_ble_eq_true rfl) d_G_swap_97 ⟨Nat.le_of_ble_eq_true rfl, Nat.le_of_ble_eq_true rfl⟩ ?_
                  by_cases hs97 : gp_uns F ns (F 14 a) b = true
                  · rw [show ((if gp_uns F ns (F 14 a) b then 1 else 0) : Int32) = 1 from if_pos hs97]
                    refine lv_if_eq (tgt := 105) hx hb d_G_swap_100 (by decide) (fun c100 => ?_) (fun c100 => ?_)
                    · exact absurd c100 (by decide)
                    · have c100 := c100
                      have nc100 : ¬ 1 = 0 := fun h => c100 ((nI_eq (a := 1) (b := 0) (by omega) (by omega)).mpr h)
                      refine lv_iconst (v := 3) hx hb d_G_swap_103 (by decide) ?_
                      exact gp_wi hx hb hr hlocks hAe (by rw [gp_swr, if_neg (fun q => q.elim (fun z => c27 z) (fun z => by first | exact mc43 z | exact (Int32.not_le.mpr z) c43)), if_neg (fun q => q.elim hs67 hs76), if_pos (by first | exact Or.inl hs88 | exact Or.inr hs97)]) (by rw [gp_sw, if_neg (by rw [gp_swr, if_neg (fun q => q.elim (fun z => c27 z) (fun z => by first | exact mc43 z | exact (Int32.not_le.mpr z) c43)), if_neg (fun q => q.elim hs67 hs76), if_pos (by first | exact Or.inl hs88 | exact Or.inr hs97)]; decide)]; exact hP) hS d_G_swap_104
                  · rw [show ((if gp_uns F ns (F 14 a) b then 1 else 0) : Int32) = 0 from if_neg hs97]
                    refine lv_if_eq (tgt := 105) hx hb d_G_swap_100 (by decide) (fun c100 => ?_) (fun c100 => ?_)
                    · have c100 := c100
                      have nc100 : 0 = 0 := (nI_eq (a := 0) (b := 0) (by omega) (by omega)).mp c100
                      refine lv_aload_n hx hb d_G_swap_105 rfl (lv_at hl 2 rfl) ?_
                      refine va_get (D := E.1) (cl := gp_cl) (ci := 0) (v := .ref (E.2.2.2 17)) (C := R_G) (T := T_G) (N := 8) hx hb hts i_G hown hK hP 0 rfl rfl 2 (by decide) (hts _ w1_119) (fun _ h9 => h9) rfl d_G_swap_106 ?_
                      refine lv_iload_n hx hb d_G_swap_109 rfl (lv_at hl 3 rfl) ?_
                      refine lv_iload hx hb d_G_swap_110 (lv_at hl 0 rfl) ?_
                      refine gp_ast (f := (F 14)) (n := 6) hx hb hK hP hD hS 17 rfl (a) rfl (by omega) (by decide) d_G_swap_112 (fun H locs hP hD hS => ?_)
                      have hP : va_P E.1 gp_cl (gp_wG E I (gp_uF F 14 (upd (F 14) (a) ((F 14) (b))))) H := hP
                      have hD : va_D A (gp_wG E I (gp_uF F 14 (upd (F 14) (a) ((F 14) (b))))) := hD
                      refine lv_aload_n hx hb d_G_swap_113 rfl (lv_at hl 2 rfl) ?_
                      refine va_get (D := E.1) (cl := gp_cl) (ci := 0) (v := .ref (E.2.2.2 17)) (C := R_G) (T := T_G) (N := 8) hx hb hts i_G hown hK hP 0 rfl rfl 2 (by decide) (hts _ w1_119) (fun _ h9 => h9) rfl d_G_swap_114 ?_
                      refine lv_iload_n hx hb d_G_swap_117 rfl (lv_at hl 4 rfl) ?_
                      refine lv_iload_n hx hb d_G_swap_118 rfl (lv_at hl 1 rfl) ?_
                      refine gp_ast (f := (upd (F 14) (a) ((F 14) (b)))) (n := 6) hx hb hK hP hD hS 17 rfl (b) rfl (by omega) (by decide) d_G_swap_119 (fun H locs hP hD hS => ?_)
                      have hP : va_P E.1 gp_cl (gp_wG E I (gp_uF (gp_uF F 14 (upd (F 14) (a) ((F 14) (b)))) 14 (upd (upd (F 14) (a) ((F 14) (b))) (b) ((F 14) (a))))) H := hP
                      have hD : va_D A (gp_wG E I (gp_uF (gp_uF F 14 (upd (F 14) (a) ((F 14) (b)))) 14 (upd (upd (F 14) (a) ((F 14) (b))) (b) ((F 14) (a))))) := hD
                      have hP : va_P E.1 gp_cl (gp_wG E I (gp_swF F a b)) H := hP
                      have hD : va_D A (gp_wG E I (gp_swF F a b)) := hD
                      have e0 : ¬ (F 5 a < I 1 ∨ F 5 b < I 1) := fun q => q.elim (fun z => c27 z) (fun z => by first | exact mc43 z | exact (Int32.not_le.mpr z) c43)
                      have e3 : gp_swr I F ns nt a b = gp_fs I (gp_swF F a b) (F 14 a) (F 14 b) nt := by rw [gp_swr, if_neg e0, if_neg (fun q => q.elim hs67 hs76), if_neg (fun q => q.elim hs88 hs97)]
                      refine lv_aload_n hx hb d_G_swap_120 rfl (lv_at hl 2 rfl) ?_
                      refine lv_iload_n hx hb d_G_swap_121 rfl (lv_at hl 1 rfl) ?_
                      refine lv_iload hx hb d_G_swap_122 (lv_at hl 0 rfl) ?_
                      refine gp_cR (q0 := 0) (ci := 0) (As := [.int ((F 14) (a)), .int ((F 14) (b))]) (rest := []) ⟨hx, hb, hml, hown, hts⟩ (show gp_CR _ _ _ _ _ _ _ _ _ (gp_fs I (gp_swF F a b) (F 14 a) (F 14 b) nt) from c_G_faultOfSets l E I (gp_swF F a b) nt (F 14 a) (F 14 b) hT hnt) (k_G_147 hts ⟨by decide, by decide⟩ rfl rfl) hK hP rfl rfl rfl hl.1 rfl (Nat.le_of_ble_eq_true rfl) d_G_swap_124 ⟨Nat.le_of_ble_eq_true rfl, Nat.le_of_ble_eq_true rfl⟩ ?_
                      refine lv_istore (lv' := [(5, .int (gp_fs I (gp_swF F a b) (F 14 a) (F 14 b) nt)), (4, .int ((F 14) (b))), (3, .int ((F 14) (a))), (0, .ref (E.2.2.2 0)), (1, .int (nI a)), (2, .int (nI b))]) hx hb d_G_swap_127 hl (by decide) rfl (fun ls hl => ?_)
                      refine lv_iload hx hb d_G_swap_129 (lv_at hl 0 rfl) ?_
                      refine lv_if_eq (tgt := 149) hx hb d_G_swap_131 (by decide) (fun c131 => ?_) (fun c131 => ?_)
                      · have c131 := c131
                        refine lv_iload hx hb d_G_swap_149 (lv_at hl 0 rfl) ?_
                        exact gp_wi hx hb hr hlocks hAe (by rw [e3]) (by first | (rw [gp_sw, if_pos (by rw [e3]; exact c131)]; exact hP) | (rw [gp_sw, if_neg (by rw [e3]; exact c131)]; have h9 : va_P E.1 gp_cl (gp_wG E I (gp_uF F 14 (upd (upd (upd (upd (F 14) a (F 14 b)) b (F 14 a)) a (F 14 a)) b (F 14 b)))) H := hP; rw [gp_back, gp_uF_self] at h9; exact h9)) hS d_G_swap_151
                      · have c131 := c131
                        refine lv_aload_n hx hb d_G_swap_134 rfl (lv_at hl 3 rfl) ?_
                        refine va_get (D := E.1) (cl := gp_cl) (ci := 0) (v := .ref (E.2.2.2 17)) (C := R_G) (T := T_G) (N := 8) hx hb hts i_G hown hK hP 0 rfl rfl 2 (by decide) (hts _ w1_119) (fun _ h9 => h9) rfl d_G_swap_135 ?_
                        refine lv_iload_n hx hb d_G_swap_138 rfl (lv_at hl 4 rfl) ?_
                        refine lv_iload_n hx hb d_G_swap_139 rfl (lv_at hl 2 rfl) ?_
                        refine gp_ast (f := (upd (upd (F 14) (a) ((F 14) (b))) (b) ((F 14) (a)))) (n := 6) hx hb hK hP hD hS 17 rfl (a) rfl (by omega) (by decide) d_G_swap_140 (fun H locs hP hD hS => ?_)
                        have hP : va_P E.1 gp_cl (gp_wG E I (gp_uF (gp_uF (gp_uF F 14 (upd (F 14) (a) ((F 14) (b)))) 14 (upd (upd (F 14) (a) ((F 14) (b))) (b) ((F 14) (a)))) 14 (upd (upd (upd (F 14) (a) ((F 14) (b))) (b) ((F 14) (a))) (a) ((F 14) (a))))) H := hP
                        have hD : va_D A (gp_wG E I (gp_uF (gp_uF (gp_uF F 14 (upd (F 14) (a) ((F 14) (b)))) 14 (upd (upd (F 14) (a) ((F 14) (b))) (b) ((F 14) (a)))) 14 (upd (upd (upd (F 14) (a) ((F 14) (b))) (b) ((F 14) (a))) (a) ((F 14) (a))))) := hD
                        refine lv_aload_n hx hb d_G_swap_141 rfl (lv_at hl 3 rfl) ?_
                        refine va_get (D := E.1) (cl := gp_cl) (ci := 0) (v := .ref (E.2.2.2 17)) (C := R_G) (T := T_G) (N := 8) hx hb hts i_G hown hK hP 0 rfl rfl 2 (by decide) (hts _ w1_119) (fun _ h9 => h9) rfl d_G_swap_142 ?_
                        refine lv_iload_n hx hb d_G_swap_145 rfl (lv_at hl 5 rfl) ?_
                        refine lv_iload hx hb d_G_swap_146 (lv_at hl 1 rfl) ?_
                        refine gp_ast (f := (upd (upd (upd (F 14) (a) ((F 14) (b))) (b) ((F 14) (a))) (a) ((F 14) (a)))) (n := 6) hx hb hK hP hD hS 17 rfl (b) rfl (by omega) (by decide) d_G_swap_148 (fun H locs hP hD hS => ?_)
                        have hP : va_P E.1 gp_cl (gp_wG E I (gp_uF (gp_uF (gp_uF (gp_uF F 14 (upd (F 14) (a) ((F 14) (b)))) 14 (upd (upd (F 14) (a) ((F 14) (b))) (b) ((F 14) (a)))) 14 (upd (upd (upd (F 14) (a) ((F 14) (b))) (b) ((F 14) (a))) (a) ((F 14) (a)))) 14 (upd (upd (upd (upd (F 14) (a) ((F 14) (b))) (b) ((F 14) (a))) (a) ((F 14) (a))) (b) ((F 14) (b))))) H := hP
                        have hD : va_D A (gp_wG E I (gp_uF (gp_uF (gp_uF (gp_uF F 14 (upd (F 14) (a) ((F 14) (b)))) 14 (upd (upd (F 14) (a) ((F 14) (b))) (b) ((F 14) (a)))) 14 (upd (upd (upd (F 14) (a) ((F 14) (b))) (b) ((F 14) (a))) (a) ((F 14) (a)))) 14 (upd (upd (upd (upd (F 14) (a) ((F 14) (b))) (b) ((F 14) (a))) (a) ((F 14) (a))) (b) ((F 14) (b))))) := hD
                        refine lv_iload hx hb d_G_swap_149 (lv_at hl 0 rfl) ?_
                        exact gp_wi hx hb hr hlocks hAe (by rw [e3]) (by first | (rw [gp_sw, if_pos (by rw [e3]; exact c131)]; exact hP) | (rw [gp_sw, if_neg (by rw [e3]; exact c131)]; have h9 : va_P E.1 gp_cl (gp_wG E I (gp_uF F 14 (upd (upd (upd (upd (F 14) a (F 14 b)) b (F 14 a)) a (F 14 a)) b (F 14 b)))) H := hP; rw [gp_back, gp_uF_self] at h9; exact h9)) hS d_G_swap_151
                    · exact absurd c100 (by decide)
            · exact absurd c79 (by decide)
    · have c43 := c43
      have mc43 : ((F 5) (b)) < (I 1) := Int32.not_le.mp c43
      refine lv_iconst (v := 1) hx hb d_G_swap_46 (by decide) ?_
      exact gp_wi hx hb hr hlocks hAe (by rw [gp_swr, if_pos (by first | exact Or.inl c27 | exact Or.inr mc43 | exact Or.inr (Int32.not_le.mp c43))]) (by rw [gp_sw, if_neg (by rw [gp_swr, if_pos (by first | exact Or.inl c27 | exact Or.inr mc43 | exact Or.inr (Int32.not_le.mp c43))]; decide)]; exact hP) hS d_G_swap_47
end
