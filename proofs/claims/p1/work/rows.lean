section
-- ===== PART A: goes FIRST, ahead of the names: the tables' words, and 'selects' of the private methods out of them =====
/-- a private method of a class that the tables say can be made, by its rows of tables_1 -/
def lw_okq (q : MethodName × Nat) : Prop := (q.1.cls ≠ "java/lang/invoke/MethodHandle" ∧ q.1.cls ≠ "java/lang/invoke/VarHandle") ∧ Cond.instantiable q.1.cls q.2 ∈ tables_1 ∧ Cond.privateMethod q.1 ∈ tables_1 ∧ Cond.instanceMethod q.1 ∈ tables_1
theorem lw_p0 : lw_okq (⟨"FileBuilder$Build", "isUnderWay", "()Z"⟩, 4) := ⟨⟨by decide +kernel, by decide +kernel⟩, List.mem_of_getElem? (i := 123) (by decide +kernel), List.mem_of_getElem? (i := 170) (by decide +kernel), List.mem_of_getElem? (i := 171) (by decide +kernel)⟩
theorem lw_p1 : lw_okq (⟨"FileBuilder", "nextToBegin", "()I"⟩, 6) := ⟨⟨by decide +kernel, by decide +kernel⟩, List.mem_of_getElem? (i := 18) (by decide +kernel), List.mem_of_getElem? (i := 174) (by decide +kernel), List.mem_of_getElem? (i := 175) (by decide +kernel)⟩
theorem lw_p2 : lw_okq (⟨"FileBuilder$Build", "countAt", "(I)I"⟩, 4) := ⟨⟨by decide +kernel, by decide +kernel⟩, List.mem_of_getElem? (i := 123) (by decide +kernel), List.mem_of_getElem? (i := 178) (by decide +kernel), List.mem_of_getElem? (i := 179) (by decide +kernel)⟩
theorem lw_p3 : lw_okq (⟨"FileBuilder", "hasRoomInPool", "(I)Z"⟩, 6) := ⟨⟨by decide +kernel, by decide +kernel⟩, List.mem_of_getElem? (i := 18) (by decide +kernel), List.mem_of_getElem? (i := 182) (by decide +kernel), List.mem_of_getElem? (i := 183) (by decide +kernel)⟩
theorem lw_p4 : lw_okq (⟨"FileBuilder$Graph", "behind", "(IZ)I"⟩, 6) := ⟨⟨by decide +kernel, by decide +kernel⟩, List.mem_of_getElem? (i := 49) (by decide +kernel), List.mem_of_getElem? (i := 186) (by decide +kernel), List.mem_of_getElem? (i := 187) (by decide +kernel)⟩
theorem lw_p5 : lw_okq (⟨"FileBuilder$Graph", "waits", "(I)I"⟩, 6) := ⟨⟨by decide +kernel, by decide +kernel⟩, List.mem_of_getElem? (i := 49) (by decide +kernel), List.mem_of_getElem? (i := 190) (by decide +kernel), List.mem_of_getElem? (i := 191) (by decide +kernel)⟩
theorem lw_p6 : lw_okq (⟨"FileBuilder$Graph", "needs", "(I)I"⟩, 6) := ⟨⟨by decide +kernel, by decide +kernel⟩, List.mem_of_getElem? (i := 49) (by decide +kernel), List.mem_of_getElem? (i := 194) (by decide +kernel), List.mem_of_getElem? (i := 195) (by decide +kernel)⟩
theorem lw_p7 : lw_okq (⟨"FileBuilder$Graph", "isPhony", "(I)Z"⟩, 6) := ⟨⟨by decide +kernel, by decide +kernel⟩, List.mem_of_getElem? (i := 49) (by decide +kernel), List.mem_of_getElem? (i := 198) (by decide +kernel), List.mem_of_getElem? (i := 199) (by decide +kernel)⟩
theorem lw_p8 : lw_okq (⟨"FileBuilder$Graph", "hasFlag", "(II)Z"⟩, 6) := ⟨⟨by decide +kernel, by decide +kernel⟩, List.mem_of_getElem? (i := 49) (by decide +kernel), List.mem_of_getElem? (i := 202) (by decide +kernel), List.mem_of_getElem? (i := 203) (by decide +kernel)⟩
theorem lw_p9 : lw_okq (⟨"FileBuilder", "isMadeByPending", "(I)Z"⟩, 6) := ⟨⟨by decide +kernel, by decide +kernel⟩, List.mem_of_getElem? (i := 18) (by decide +kernel), List.mem_of_getElem? (i := 206) (by decide +kernel), List.mem_of_getElem? (i := 207) (by decide +kernel)⟩
theorem lw_p10 : lw_okq (⟨"FileBuilder$Build", "isPending", "(I)Z"⟩, 4) := ⟨⟨by decide +kernel, by decide +kernel⟩, List.mem_of_getElem? (i := 123) (by decide +kernel), List.mem_of_getElem? (i := 210) (by decide +kernel), List.mem_of_getElem? (i := 211) (by decide +kernel)⟩
theorem lw_p11 : lw_okq (⟨"FileBuilder$RecordLog", "hasByte", "(I)Z"⟩, 4) := ⟨⟨by decide +kernel, by decide +kernel⟩, List.mem_of_getElem? (i := 97) (by decide +kernel), List.mem_of_getElem? (i := 222) (by decide +kernel), List.mem_of_getElem? (i := 223) (by decide +kernel)⟩
theorem lw_p12 : lw_okq (⟨"java/lang/Throwable", "fillInStackTrace", "(I)Ljava/lang/Throwable;"⟩, 6) := ⟨⟨by decide +kernel, by decide +kernel⟩, List.mem_of_getElem? (i := 289) (by decide +kernel), List.mem_of_getElem? (i := 287) (by decide +kernel), List.mem_of_getElem? (i := 288) (by decide +kernel)⟩
theorem lw_p13 : lw_okq (⟨"FileBuilder$Graph", "addEdge", "(III)I"⟩, 6) := ⟨⟨by decide +kernel, by decide +kernel⟩, List.mem_of_getElem? (i := 49) (by decide +kernel), List.mem_of_getElem? (i := 335) (by decide +kernel), List.mem_of_getElem? (i := 336) (by decide +kernel)⟩
theorem lw_p14 : lw_okq (⟨"FileBuilder$Graph", "hasEdge", "(I)Z"⟩, 6) := ⟨⟨by decide +kernel, by decide +kernel⟩, List.mem_of_getElem? (i := 49) (by decide +kernel), List.mem_of_getElem? (i := 346) (by decide +kernel), List.mem_of_getElem? (i := 347) (by decide +kernel)⟩
theorem lw_p15 : lw_okq (⟨"FileBuilder", "mayBecomeOutput", "(II)Z"⟩, 6) := ⟨⟨by decide +kernel, by decide +kernel⟩, List.mem_of_getElem? (i := 18) (by decide +kernel), List.mem_of_getElem? (i := 355) (by decide +kernel), List.mem_of_getElem? (i := 356) (by decide +kernel)⟩
def lw_privs_1 : List (MethodName × Nat) := [(⟨"FileBuilder$Build", "isUnderWay", "()Z"⟩, 4), (⟨"FileBuilder", "nextToBegin", "()I"⟩, 6), (⟨"FileBuilder$Build", "countAt", "(I)I"⟩, 4), (⟨"FileBuilder", "hasRoomInPool", "(I)Z"⟩, 6), (⟨"FileBuilder$Graph", "behind", "(IZ)I"⟩, 6), (⟨"FileBuilder$Graph", "waits", "(I)I"⟩, 6), (⟨"FileBuilder$Graph", "needs", "(I)I"⟩, 6), (⟨"FileBuilder$Graph", "isPhony", "(I)Z"⟩, 6), (⟨"FileBuilder$Graph", "hasFlag", "(II)Z"⟩, 6), (⟨"FileBuilder", "isMadeByPending", "(I)Z"⟩, 6), (⟨"FileBuilder$Build", "isPending", "(I)Z"⟩, 4), (⟨"FileBuilder$RecordLog", "hasByte", "(I)Z"⟩, 4), (⟨"java/lang/Throwable", "fillInStackTrace", "(I)Ljava/lang/Throwable;"⟩, 6), (⟨"FileBuilder$Graph", "addEdge", "(III)I"⟩, 6), (⟨"FileBuilder$Graph", "hasEdge", "(I)Z"⟩, 6), (⟨"FileBuilder", "mayBecomeOutput", "(II)Z"⟩, 6)]
theorem lw_r1 : ∀ q ∈ lw_privs_1, lw_okq q := List.forall_mem_cons.mpr ⟨lw_p0, List.forall_mem_cons.mpr ⟨lw_p1, List.forall_mem_cons.mpr ⟨lw_p2, List.forall_mem_cons.mpr ⟨lw_p3, List.forall_mem_cons.mpr ⟨lw_p4, List.forall_mem_cons.mpr ⟨lw_p5, List.forall_mem_cons.mpr ⟨lw_p6, List.forall_mem_cons.mpr ⟨lw_p7, List.forall_mem_cons.mpr ⟨lw_p8, List.forall_mem_cons.mpr ⟨lw_p9, List.forall_mem_cons.mpr ⟨lw_p10, List.forall_mem_cons.mpr ⟨lw_p11, List.forall_mem_cons.mpr ⟨lw_p12, List.forall_mem_cons.mpr ⟨lw_p13, List.forall_mem_cons.mpr ⟨lw_p14, List.forall_mem_cons.mpr ⟨lw_p15, fun _ h => absurd h List.not_mem_nil⟩⟩⟩⟩⟩⟩⟩⟩⟩⟩⟩⟩⟩⟩⟩⟩
theorem lw_p16 : lw_okq (⟨"FileBuilder$Graph", "made", "()I"⟩, 6) := ⟨⟨by decide +kernel, by decide +kernel⟩, List.mem_of_getElem? (i := 49) (by decide +kernel), List.mem_of_getElem? (i := 359) (by decide +kernel), List.mem_of_getElem? (i := 360) (by decide +kernel)⟩
theorem lw_p17 : lw_okq (⟨"FileBuilder$Graph", "read", "()I"⟩, 6) := ⟨⟨by decide +kernel, by decide +kernel⟩, List.mem_of_getElem? (i := 49) (by decide +kernel), List.mem_of_getElem? (i := 366) (by decide +kernel), List.mem_of_getElem? (i := 367) (by decide +kernel)⟩
theorem lw_p18 : lw_okq (⟨"FileBuilder$Graph", "join", "(III)V"⟩, 6) := ⟨⟨by decide +kernel, by decide +kernel⟩, List.mem_of_getElem? (i := 49) (by decide +kernel), List.mem_of_getElem? (i := 372) (by decide +kernel), List.mem_of_getElem? (i := 373) (by decide +kernel)⟩
theorem lw_p19 : lw_okq (⟨"FileBuilder", "refuseUnderWay", "()V"⟩, 6) := ⟨⟨by decide +kernel, by decide +kernel⟩, List.mem_of_getElem? (i := 18) (by decide +kernel), List.mem_of_getElem? (i := 393) (by decide +kernel), List.mem_of_getElem? (i := 394) (by decide +kernel)⟩
theorem lw_p20 : lw_okq (⟨"FileBuilder$Graph", "madeByPhonies", "()I"⟩, 6) := ⟨⟨by decide +kernel, by decide +kernel⟩, List.mem_of_getElem? (i := 49) (by decide +kernel), List.mem_of_getElem? (i := 413) (by decide +kernel), List.mem_of_getElem? (i := 414) (by decide +kernel)⟩
theorem lw_p21 : lw_okq (⟨"FileBuilder$Disk", "put", "(II)V"⟩, 4) := ⟨⟨by decide +kernel, by decide +kernel⟩, List.mem_of_getElem? (i := 26) (by decide +kernel), List.mem_of_getElem? (i := 418) (by decide +kernel), List.mem_of_getElem? (i := 419) (by decide +kernel)⟩
theorem lw_p22 : lw_okq (⟨"FileBuilder$Disk", "erase", "(I)V"⟩, 4) := ⟨⟨by decide +kernel, by decide +kernel⟩, List.mem_of_getElem? (i := 26) (by decide +kernel), List.mem_of_getElem? (i := 447) (by decide +kernel), List.mem_of_getElem? (i := 448) (by decide +kernel)⟩
theorem lw_p23 : lw_okq (⟨"FileBuilder$Graph", "reachedFrom", "(I)I"⟩, 6) := ⟨⟨by decide +kernel, by decide +kernel⟩, List.mem_of_getElem? (i := 49) (by decide +kernel), List.mem_of_getElem? (i := 461) (by decide +kernel), List.mem_of_getElem? (i := 462) (by decide +kernel)⟩
theorem lw_p24 : lw_okq (⟨"FileBuilder$Graph", "makersOf", "(I)I"⟩, 6) := ⟨⟨by decide +kernel, by decide +kernel⟩, List.mem_of_getElem? (i := 49) (by decide +kernel), List.mem_of_getElem? (i := 465) (by decide +kernel), List.mem_of_getElem? (i := 466) (by decide +kernel)⟩
theorem lw_p25 : lw_okq (⟨"FileBuilder$Graph", "waitedForBy", "(I)I"⟩, 6) := ⟨⟨by decide +kernel, by decide +kernel⟩, List.mem_of_getElem? (i := 49) (by decide +kernel), List.mem_of_getElem? (i := 469) (by decide +kernel), List.mem_of_getElem? (i := 470) (by decide +kernel)⟩
theorem lw_p26 : lw_okq (⟨"FileBuilder$Graph", "hasCycle", "(I)Z"⟩, 6) := ⟨⟨by decide +kernel, by decide +kernel⟩, List.mem_of_getElem? (i := 49) (by decide +kernel), List.mem_of_getElem? (i := 474) (by decide +kernel), List.mem_of_getElem? (i := 475) (by decide +kernel)⟩
theorem lw_p27 : lw_okq (⟨"FileBuilder$Graph", "nextToLookAt", "(II)I"⟩, 6) := ⟨⟨by decide +kernel, by decide +kernel⟩, List.mem_of_getElem? (i := 49) (by decide +kernel), List.mem_of_getElem? (i := 478) (by decide +kernel), List.mem_of_getElem? (i := 479) (by decide +kernel)⟩
theorem lw_p28 : lw_okq (⟨"FileBuilder", "isMissing", "(I)Z"⟩, 6) := ⟨⟨by decide +kernel, by decide +kernel⟩, List.mem_of_getElem? (i := 18) (by decide +kernel), List.mem_of_getElem? (i := 499) (by decide +kernel), List.mem_of_getElem? (i := 500) (by decide +kernel)⟩
theorem lw_p29 : lw_okq (⟨"FileBuilder$Build", "renew", "(II)V"⟩, 4) := ⟨⟨by decide +kernel, by decide +kernel⟩, List.mem_of_getElem? (i := 123) (by decide +kernel), List.mem_of_getElem? (i := 504) (by decide +kernel), List.mem_of_getElem? (i := 505) (by decide +kernel)⟩
theorem lw_p30 : lw_okq (⟨"FileBuilder", "findWhatIsToRun", "(I)V"⟩, 6) := ⟨⟨by decide +kernel, by decide +kernel⟩, List.mem_of_getElem? (i := 18) (by decide +kernel), List.mem_of_getElem? (i := 509) (by decide +kernel), List.mem_of_getElem? (i := 510) (by decide +kernel)⟩
theorem lw_p31 : lw_okq (⟨"FileBuilder", "isOutOfDate", "(I)Z"⟩, 6) := ⟨⟨by decide +kernel, by decide +kernel⟩, List.mem_of_getElem? (i := 18) (by decide +kernel), List.mem_of_getElem? (i := 514) (by decide +kernel), List.mem_of_getElem? (i := 515) (by decide +kernel)⟩
def lw_privs_2 : List (MethodName × Nat) := [(⟨"FileBuilder$Graph", "made", "()I"⟩, 6), (⟨"FileBuilder$Graph", "read", "()I"⟩, 6), (⟨"FileBuilder$Graph", "join", "(III)V"⟩, 6), (⟨"FileBuilder", "refuseUnderWay", "()V"⟩, 6), (⟨"FileBuilder$Graph", "madeByPhonies", "()I"⟩, 6), (⟨"FileBuilder$Disk", "put", "(II)V"⟩, 4), (⟨"FileBuilder$Disk", "erase", "(I)V"⟩, 4), (⟨"FileBuilder$Graph", "reachedFrom", "(I)I"⟩, 6), (⟨"FileBuilder$Graph", "makersOf", "(I)I"⟩, 6), (⟨"FileBuilder$Graph", "waitedForBy", "(I)I"⟩, 6), (⟨"FileBuilder$Graph", "hasCycle", "(I)Z"⟩, 6), (⟨"FileBuilder$Graph", "nextToLookAt", "(II)I"⟩, 6), (⟨"FileBuilder", "isMissing", "(I)Z"⟩, 6), (⟨"FileBuilder$Build", "renew", "(II)V"⟩, 4), (⟨"FileBuilder", "findWhatIsToRun", "(I)V"⟩, 6), (⟨"FileBuilder", "isOutOfDate", "(I)Z"⟩, 6)]
theorem lw_r2 : ∀ q ∈ lw_privs_2, lw_okq q := List.forall_mem_cons.mpr ⟨lw_p16, List.forall_mem_cons.mpr ⟨lw_p17, List.forall_mem_cons.mpr ⟨lw_p18, List.forall_mem_cons.mpr ⟨lw_p19, List.forall_mem_cons.mpr ⟨lw_p20, List.forall_mem_cons.mpr ⟨lw_p21, List.forall_mem_cons.mpr ⟨lw_p22, List.forall_mem_cons.mpr ⟨lw_p23, List.forall_mem_cons.mpr ⟨lw_p24, List.forall_mem_cons.mpr ⟨lw_p25, List.forall_mem_cons.mpr ⟨lw_p26, List.forall_mem_cons.mpr ⟨lw_p27, List.forall_mem_cons.mpr ⟨lw_p28, List.forall_mem_cons.mpr ⟨lw_p29, List.forall_mem_cons.mpr ⟨lw_p30, List.forall_mem_cons.mpr ⟨lw_p31, fun _ h => absurd h List.not_mem_nil⟩⟩⟩⟩⟩⟩⟩⟩⟩⟩⟩⟩⟩⟩⟩⟩
theorem lw_p32 : lw_okq (⟨"FileBuilder", "isUnknownToLog", "(I)Z"⟩, 6) := ⟨⟨by decide +kernel, by decide +kernel⟩, List.mem_of_getElem? (i := 18) (by decide +kernel), List.mem_of_getElem? (i := 519) (by decide +kernel), List.mem_of_getElem? (i := 520) (by decide +kernel)⟩
theorem lw_p33 : lw_okq (⟨"FileBuilder", "newest", "(I)I"⟩, 6) := ⟨⟨by decide +kernel, by decide +kernel⟩, List.mem_of_getElem? (i := 18) (by decide +kernel), List.mem_of_getElem? (i := 523) (by decide +kernel), List.mem_of_getElem? (i := 524) (by decide +kernel)⟩
theorem lw_p34 : lw_okq (⟨"FileBuilder$Disk", "greatestTime", "(I)I"⟩, 4) := ⟨⟨by decide +kernel, by decide +kernel⟩, List.mem_of_getElem? (i := 26) (by decide +kernel), List.mem_of_getElem? (i := 527) (by decide +kernel), List.mem_of_getElem? (i := 528) (by decide +kernel)⟩
theorem lw_p35 : lw_okq (⟨"FileBuilder", "isOlderThan", "(II)Z"⟩, 6) := ⟨⟨by decide +kernel, by decide +kernel⟩, List.mem_of_getElem? (i := 18) (by decide +kernel), List.mem_of_getElem? (i := 535) (by decide +kernel), List.mem_of_getElem? (i := 536) (by decide +kernel)⟩
theorem lw_p36 : lw_okq (⟨"FileBuilder$RecordLog", "reaches", "(II)Z"⟩, 4) := ⟨⟨by decide +kernel, by decide +kernel⟩, List.mem_of_getElem? (i := 97) (by decide +kernel), List.mem_of_getElem? (i := 539) (by decide +kernel), List.mem_of_getElem? (i := 540) (by decide +kernel)⟩
theorem lw_p37 : lw_okq (⟨"FileBuilder$RecordLog", "hasRecord", "(I)Z"⟩, 4) := ⟨⟨by decide +kernel, by decide +kernel⟩, List.mem_of_getElem? (i := 97) (by decide +kernel), List.mem_of_getElem? (i := 543) (by decide +kernel), List.mem_of_getElem? (i := 544) (by decide +kernel)⟩
theorem lw_p38 : lw_okq (⟨"FileBuilder", "settle", "()V"⟩, 6) := ⟨⟨by decide +kernel, by decide +kernel⟩, List.mem_of_getElem? (i := 18) (by decide +kernel), List.mem_of_getElem? (i := 547) (by decide +kernel), List.mem_of_getElem? (i := 548) (by decide +kernel)⟩
theorem lw_p39 : lw_okq (⟨"FileBuilder", "endWell", "(I)V"⟩, 6) := ⟨⟨by decide +kernel, by decide +kernel⟩, List.mem_of_getElem? (i := 18) (by decide +kernel), List.mem_of_getElem? (i := 559) (by decide +kernel), List.mem_of_getElem? (i := 560) (by decide +kernel)⟩
theorem lw_p40 : lw_okq (⟨"FileBuilder", "writeOutputs", "(I)V"⟩, 6) := ⟨⟨by decide +kernel, by decide +kernel⟩, List.mem_of_getElem? (i := 18) (by decide +kernel), List.mem_of_getElem? (i := 563) (by decide +kernel), List.mem_of_getElem? (i := 564) (by decide +kernel)⟩
theorem lw_p41 : lw_okq (⟨"FileBuilder", "mixOfWhatIsRead", "(I)I"⟩, 6) := ⟨⟨by decide +kernel, by decide +kernel⟩, List.mem_of_getElem? (i := 18) (by decide +kernel), List.mem_of_getElem? (i := 567) (by decide +kernel), List.mem_of_getElem? (i := 568) (by decide +kernel)⟩
theorem lw_p42 : lw_okq (⟨"FileBuilder$Readings", "keep", "(II)V"⟩, 2) := ⟨⟨by decide +kernel, by decide +kernel⟩, List.mem_of_getElem? (i := 81) (by decide +kernel), List.mem_of_getElem? (i := 576) (by decide +kernel), List.mem_of_getElem? (i := 577) (by decide +kernel)⟩
theorem lw_p43 : lw_okq (⟨"FileBuilder$RecordLog", "append", "(III)V"⟩, 4) := ⟨⟨by decide +kernel, by decide +kernel⟩, List.mem_of_getElem? (i := 97) (by decide +kernel), List.mem_of_getElem? (i := 580) (by decide +kernel), List.mem_of_getElem? (i := 581) (by decide +kernel)⟩
theorem lw_p44 : lw_okq (⟨"FileBuilder$RecordLog", "writeAnew", "()V"⟩, 4) := ⟨⟨by decide +kernel, by decide +kernel⟩, List.mem_of_getElem? (i := 97) (by decide +kernel), List.mem_of_getElem? (i := 584) (by decide +kernel), List.mem_of_getElem? (i := 585) (by decide +kernel)⟩
theorem lw_p45 : lw_okq (⟨"FileBuilder$RecordLog", "addBytes", "(I)V"⟩, 4) := ⟨⟨by decide +kernel, by decide +kernel⟩, List.mem_of_getElem? (i := 97) (by decide +kernel), List.mem_of_getElem? (i := 588) (by decide +kernel), List.mem_of_getElem? (i := 589) (by decide +kernel)⟩
theorem lw_p46 : lw_okq (⟨"FileBuilder$RecordLog", "checkOf", "(I)I"⟩, 4) := ⟨⟨by decide +kernel, by decide +kernel⟩, List.mem_of_getElem? (i := 97) (by decide +kernel), List.mem_of_getElem? (i := 592) (by decide +kernel), List.mem_of_getElem? (i := 593) (by decide +kernel)⟩
theorem lw_p47 : lw_okq (⟨"FileBuilder", "letGo", "()I"⟩, 6) := ⟨⟨by decide +kernel, by decide +kernel⟩, List.mem_of_getElem? (i := 18) (by decide +kernel), List.mem_of_getElem? (i := 596) (by decide +kernel), List.mem_of_getElem? (i := 597) (by decide +kernel)⟩
def lw_privs_3 : List (MethodName × Nat) := [(⟨"FileBuilder", "isUnknownToLog", "(I)Z"⟩, 6), (⟨"FileBuilder", "newest", "(I)I"⟩, 6), (⟨"FileBuilder$Disk", "greatestTime", "(I)I"⟩, 4), (⟨"FileBuilder", "isOlderThan", "(II)Z"⟩, 6), (⟨"FileBuilder$RecordLog", "reaches", "(II)Z"⟩, 4), (⟨"FileBuilder$RecordLog", "hasRecord", "(I)Z"⟩, 4), (⟨"FileBuilder", "settle", "()V"⟩, 6), (⟨"FileBuilder", "endWell", "(I)V"⟩, 6), (⟨"FileBuilder", "writeOutputs", "(I)V"⟩, 6), (⟨"FileBuilder", "mixOfWhatIsRead", "(I)I"⟩, 6), (⟨"FileBuilder$Readings", "keep", "(II)V"⟩, 2), (⟨"FileBuilder$RecordLog", "append", "(III)V"⟩, 4), (⟨"FileBuilder$RecordLog", "writeAnew", "()V"⟩, 4), (⟨"FileBuilder$RecordLog", "addBytes", "(I)V"⟩, 4), (⟨"FileBuilder$RecordLog", "checkOf", "(I)I"⟩, 4), (⟨"FileBuilder", "letGo", "()I"⟩, 6)]
theorem lw_r3 : ∀ q ∈ lw_privs_3, lw_okq q := List.forall_mem_cons.mpr ⟨lw_p32, List.forall_mem_cons.mpr ⟨lw_p33, List.forall_mem_cons.mpr ⟨lw_p34, List.forall_mem_cons.mpr ⟨lw_p35, List.forall_mem_cons.mpr ⟨lw_p36, List.forall_mem_cons.mpr ⟨lw_p37, List.forall_mem_cons.mpr ⟨lw_p38, List.forall_mem_cons.mpr ⟨lw_p39, List.forall_mem_cons.mpr ⟨lw_p40, List.forall_mem_cons.mpr ⟨lw_p41, List.forall_mem_cons.mpr ⟨lw_p42, List.forall_mem_cons.mpr ⟨lw_p43, List.forall_mem_cons.mpr ⟨lw_p44, List.forall_mem_cons.mpr ⟨lw_p45, List.forall_mem_cons.mpr ⟨lw_p46, List.forall_mem_cons.mpr ⟨lw_p47, fun _ h => absurd h List.not_mem_nil⟩⟩⟩⟩⟩⟩⟩⟩⟩⟩⟩⟩⟩⟩⟩⟩
theorem lw_p48 : lw_okq (⟨"FileBuilder", "refuseUnknownEdge", "(I)V"⟩, 6) := ⟨⟨by decide +kernel, by decide +kernel⟩, List.mem_of_getElem? (i := 18) (by decide +kernel), List.mem_of_getElem? (i := 607) (by decide +kernel), List.mem_of_getElem? (i := 608) (by decide +kernel)⟩
theorem lw_p49 : lw_okq (⟨"FileBuilder$RecordLog", "readAgain", "(I)V"⟩, 4) := ⟨⟨by decide +kernel, by decide +kernel⟩, List.mem_of_getElem? (i := 97) (by decide +kernel), List.mem_of_getElem? (i := 636) (by decide +kernel), List.mem_of_getElem? (i := 637) (by decide +kernel)⟩
theorem lw_p50 : lw_okq (⟨"FileBuilder$RecordLog", "isRight", "(I)Z"⟩, 4) := ⟨⟨by decide +kernel, by decide +kernel⟩, List.mem_of_getElem? (i := 97) (by decide +kernel), List.mem_of_getElem? (i := 643) (by decide +kernel), List.mem_of_getElem? (i := 644) (by decide +kernel)⟩
theorem lw_p51 : lw_okq (⟨"FileBuilder$RecordLog", "takeIn", "(I)V"⟩, 4) := ⟨⟨by decide +kernel, by decide +kernel⟩, List.mem_of_getElem? (i := 97) (by decide +kernel), List.mem_of_getElem? (i := 648) (by decide +kernel), List.mem_of_getElem? (i := 649) (by decide +kernel)⟩
theorem lw_p52 : lw_okq (⟨"FileBuilder$Readings", "forget", "()V"⟩, 2) := ⟨⟨by decide +kernel, by decide +kernel⟩, List.mem_of_getElem? (i := 81) (by decide +kernel), List.mem_of_getElem? (i := 652) (by decide +kernel), List.mem_of_getElem? (i := 653) (by decide +kernel)⟩
theorem lw_p53 : lw_okq (⟨"FileBuilder$Build", "forget", "()V"⟩, 4) := ⟨⟨by decide +kernel, by decide +kernel⟩, List.mem_of_getElem? (i := 123) (by decide +kernel), List.mem_of_getElem? (i := 656) (by decide +kernel), List.mem_of_getElem? (i := 657) (by decide +kernel)⟩
theorem lw_p54 : lw_okq (⟨"FileBuilderModel", "isEdge", "(I)Z"⟩, 30) := ⟨⟨by decide +kernel, by decide +kernel⟩, List.mem_of_getElem? (i := 660) (by decide +kernel), List.mem_of_getElem? (i := 776) (by decide +kernel), List.mem_of_getElem? (i := 777) (by decide +kernel)⟩
theorem lw_p55 : lw_okq (⟨"FileBuilderModel", "is", "(II)Z"⟩, 30) := ⟨⟨by decide +kernel, by decide +kernel⟩, List.mem_of_getElem? (i := 660) (by decide +kernel), List.mem_of_getElem? (i := 780) (by decide +kernel), List.mem_of_getElem? (i := 781) (by decide +kernel)⟩
theorem lw_p56 : lw_okq (⟨"FileBuilderModel", "byPhony", "(I)Z"⟩, 30) := ⟨⟨by decide +kernel, by decide +kernel⟩, List.mem_of_getElem? (i := 660) (by decide +kernel), List.mem_of_getElem? (i := 803) (by decide +kernel), List.mem_of_getElem? (i := 804) (by decide +kernel)⟩
theorem lw_p57 : lw_okq (⟨"FileBuilderModel", "put", "(II)V"⟩, 30) := ⟨⟨by decide +kernel, by decide +kernel⟩, List.mem_of_getElem? (i := 660) (by decide +kernel), List.mem_of_getElem? (i := 807) (by decide +kernel), List.mem_of_getElem? (i := 808) (by decide +kernel)⟩
theorem lw_p58 : lw_okq (⟨"FileBuilderModel", "reach", "(I)I"⟩, 30) := ⟨⟨by decide +kernel, by decide +kernel⟩, List.mem_of_getElem? (i := 660) (by decide +kernel), List.mem_of_getElem? (i := 820) (by decide +kernel), List.mem_of_getElem? (i := 821) (by decide +kernel)⟩
theorem lw_p59 : lw_okq (⟨"FileBuilderModel", "makersOf", "(I)I"⟩, 30) := ⟨⟨by decide +kernel, by decide +kernel⟩, List.mem_of_getElem? (i := 660) (by decide +kernel), List.mem_of_getElem? (i := 824) (by decide +kernel), List.mem_of_getElem? (i := 825) (by decide +kernel)⟩
theorem lw_p60 : lw_okq (⟨"FileBuilderModel", "waits", "(I)I"⟩, 30) := ⟨⟨by decide +kernel, by decide +kernel⟩, List.mem_of_getElem? (i := 660) (by decide +kernel), List.mem_of_getElem? (i := 828) (by decide +kernel), List.mem_of_getElem? (i := 829) (by decide +kernel)⟩
theorem lw_p61 : lw_okq (⟨"FileBuilderModel", "needs", "(I)I"⟩, 30) := ⟨⟨by decide +kernel, by decide +kernel⟩, List.mem_of_getElem? (i := 660) (by decide +kernel), List.mem_of_getElem? (i := 832) (by decide +kernel), List.mem_of_getElem? (i := 833) (by decide +kernel)⟩
theorem lw_p62 : lw_okq (⟨"FileBuilderModel", "lay", "(I)Z"⟩, 30) := ⟨⟨by decide +kernel, by decide +kernel⟩, List.mem_of_getElem? (i := 660) (by decide +kernel), List.mem_of_getElem? (i := 836) (by decide +kernel), List.mem_of_getElem? (i := 837) (by decide +kernel)⟩
theorem lw_p63 : lw_okq (⟨"FileBuilderModel", "refuse", "(I)I"⟩, 30) := ⟨⟨by decide +kernel, by decide +kernel⟩, List.mem_of_getElem? (i := 660) (by decide +kernel), List.mem_of_getElem? (i := 840) (by decide +kernel), List.mem_of_getElem? (i := 841) (by decide +kernel)⟩
def lw_privs_4 : List (MethodName × Nat) := [(⟨"FileBuilder", "refuseUnknownEdge", "(I)V"⟩, 6), (⟨"FileBuilder$RecordLog", "readAgain", "(I)V"⟩, 4), (⟨"FileBuilder$RecordLog", "isRight", "(I)Z"⟩, 4), (⟨"FileBuilder$RecordLog", "takeIn", "(I)V"⟩, 4), (⟨"FileBuilder$Readings", "forget", "()V"⟩, 2), (⟨"FileBuilder$Build", "forget", "()V"⟩, 4), (⟨"FileBuilderModel", "isEdge", "(I)Z"⟩, 30), (⟨"FileBuilderModel", "is", "(II)Z"⟩, 30), (⟨"FileBuilderModel", "byPhony", "(I)Z"⟩, 30), (⟨"FileBuilderModel", "put", "(II)V"⟩, 30), (⟨"FileBuilderModel", "reach", "(I)I"⟩, 30), (⟨"FileBuilderModel", "makersOf", "(I)I"⟩, 30), (⟨"FileBuilderModel", "waits", "(I)I"⟩, 30), (⟨"FileBuilderModel", "needs", "(I)I"⟩, 30), (⟨"FileBuilderModel", "lay", "(I)Z"⟩, 30), (⟨"FileBuilderModel", "refuse", "(I)I"⟩, 30)]
theorem lw_r4 : ∀ q ∈ lw_privs_4, lw_okq q := List.forall_mem_cons.mpr ⟨lw_p48, List.forall_mem_cons.mpr ⟨lw_p49, List.forall_mem_cons.mpr ⟨lw_p50, List.forall_mem_cons.mpr ⟨lw_p51, List.forall_mem_cons.mpr ⟨lw_p52, List.forall_mem_cons.mpr ⟨lw_p53, List.forall_mem_cons.mpr ⟨lw_p54, List.forall_mem_cons.mpr ⟨lw_p55, List.forall_mem_cons.mpr ⟨lw_p56, List.forall_mem_cons.mpr ⟨lw_p57, List.forall_mem_cons.mpr ⟨lw_p58, List.forall_mem_cons.mpr ⟨lw_p59, List.forall_mem_cons.mpr ⟨lw_p60, List.forall_mem_cons.mpr ⟨lw_p61, List.forall_mem_cons.mpr ⟨lw_p62, List.forall_mem_cons.mpr ⟨lw_p63, fun _ h => absurd h List.not_mem_nil⟩⟩⟩⟩⟩⟩⟩⟩⟩⟩⟩⟩⟩⟩⟩⟩
theorem lw_p64 : lw_okq (⟨"FileBuilderModel", "isMissing", "(I)Z"⟩, 30) := ⟨⟨by decide +kernel, by decide +kernel⟩, List.mem_of_getElem? (i := 660) (by decide +kernel), List.mem_of_getElem? (i := 844) (by decide +kernel), List.mem_of_getElem? (i := 845) (by decide +kernel)⟩
theorem lw_p65 : lw_okq (⟨"FileBuilderModel", "findNewest", "()V"⟩, 30) := ⟨⟨by decide +kernel, by decide +kernel⟩, List.mem_of_getElem? (i := 660) (by decide +kernel), List.mem_of_getElem? (i := 848) (by decide +kernel), List.mem_of_getElem? (i := 849) (by decide +kernel)⟩
theorem lw_p66 : lw_okq (⟨"FileBuilderModel", "newestOf", "(I)I"⟩, 30) := ⟨⟨by decide +kernel, by decide +kernel⟩, List.mem_of_getElem? (i := 660) (by decide +kernel), List.mem_of_getElem? (i := 852) (by decide +kernel), List.mem_of_getElem? (i := 853) (by decide +kernel)⟩
theorem lw_p67 : lw_okq (⟨"FileBuilderModel", "any", "(I)Z"⟩, 30) := ⟨⟨by decide +kernel, by decide +kernel⟩, List.mem_of_getElem? (i := 660) (by decide +kernel), List.mem_of_getElem? (i := 856) (by decide +kernel), List.mem_of_getElem? (i := 857) (by decide +kernel)⟩
theorem lw_p68 : lw_okq (⟨"FileBuilderModel", "open", "(I)Z"⟩, 30) := ⟨⟨by decide +kernel, by decide +kernel⟩, List.mem_of_getElem? (i := 660) (by decide +kernel), List.mem_of_getElem? (i := 860) (by decide +kernel), List.mem_of_getElem? (i := 861) (by decide +kernel)⟩
theorem lw_p69 : lw_okq (⟨"FileBuilderModel", "outOfDate", "(I)Z"⟩, 30) := ⟨⟨by decide +kernel, by decide +kernel⟩, List.mem_of_getElem? (i := 660) (by decide +kernel), List.mem_of_getElem? (i := 864) (by decide +kernel), List.mem_of_getElem? (i := 865) (by decide +kernel)⟩
theorem lw_p70 : lw_okq (⟨"FileBuilderModel", "old", "(II)Z"⟩, 30) := ⟨⟨by decide +kernel, by decide +kernel⟩, List.mem_of_getElem? (i := 660) (by decide +kernel), List.mem_of_getElem? (i := 868) (by decide +kernel), List.mem_of_getElem? (i := 869) (by decide +kernel)⟩
theorem lw_p71 : lw_okq (⟨"FileBuilderModel", "next", "()I"⟩, 30) := ⟨⟨by decide +kernel, by decide +kernel⟩, List.mem_of_getElem? (i := 660) (by decide +kernel), List.mem_of_getElem? (i := 876) (by decide +kernel), List.mem_of_getElem? (i := 877) (by decide +kernel)⟩
theorem lw_p72 : lw_okq (⟨"FileBuilderModel", "count", "(II)I"⟩, 30) := ⟨⟨by decide +kernel, by decide +kernel⟩, List.mem_of_getElem? (i := 660) (by decide +kernel), List.mem_of_getElem? (i := 880) (by decide +kernel), List.mem_of_getElem? (i := 881) (by decide +kernel)⟩
theorem lw_p73 : lw_okq (⟨"FileBuilderModel", "markPhonies", "(Z)V"⟩, 30) := ⟨⟨by decide +kernel, by decide +kernel⟩, List.mem_of_getElem? (i := 660) (by decide +kernel), List.mem_of_getElem? (i := 884) (by decide +kernel), List.mem_of_getElem? (i := 885) (by decide +kernel)⟩
theorem lw_p74 : lw_okq (⟨"FileBuilderModel", "make", "(I)V"⟩, 30) := ⟨⟨by decide +kernel, by decide +kernel⟩, List.mem_of_getElem? (i := 660) (by decide +kernel), List.mem_of_getElem? (i := 892) (by decide +kernel), List.mem_of_getElem? (i := 893) (by decide +kernel)⟩
theorem lw_p75 : lw_okq (⟨"FileBuilderModel", "record", "(III)V"⟩, 30) := ⟨⟨by decide +kernel, by decide +kernel⟩, List.mem_of_getElem? (i := 660) (by decide +kernel), List.mem_of_getElem? (i := 900) (by decide +kernel), List.mem_of_getElem? (i := 901) (by decide +kernel)⟩
theorem lw_p76 : lw_okq (⟨"FileBuilderModel", "append", "(I)V"⟩, 30) := ⟨⟨by decide +kernel, by decide +kernel⟩, List.mem_of_getElem? (i := 660) (by decide +kernel), List.mem_of_getElem? (i := 904) (by decide +kernel), List.mem_of_getElem? (i := 905) (by decide +kernel)⟩
theorem lw_p77 : lw_okq (⟨"FileBuilderModel", "letGo", "()I"⟩, 30) := ⟨⟨by decide +kernel, by decide +kernel⟩, List.mem_of_getElem? (i := 660) (by decide +kernel), List.mem_of_getElem? (i := 908) (by decide +kernel), List.mem_of_getElem? (i := 909) (by decide +kernel)⟩
theorem lw_p78 : lw_okq (⟨"FileBuilderModel", "right", "(I)Z"⟩, 30) := ⟨⟨by decide +kernel, by decide +kernel⟩, List.mem_of_getElem? (i := 660) (by decide +kernel), List.mem_of_getElem? (i := 936) (by decide +kernel), List.mem_of_getElem? (i := 937) (by decide +kernel)⟩
def lw_privs_5 : List (MethodName × Nat) := [(⟨"FileBuilderModel", "isMissing", "(I)Z"⟩, 30), (⟨"FileBuilderModel", "findNewest", "()V"⟩, 30), (⟨"FileBuilderModel", "newestOf", "(I)I"⟩, 30), (⟨"FileBuilderModel", "any", "(I)Z"⟩, 30), (⟨"FileBuilderModel", "open", "(I)Z"⟩, 30), (⟨"FileBuilderModel", "outOfDate", "(I)Z"⟩, 30), (⟨"FileBuilderModel", "old", "(II)Z"⟩, 30), (⟨"FileBuilderModel", "next", "()I"⟩, 30), (⟨"FileBuilderModel", "count", "(II)I"⟩, 30), (⟨"FileBuilderModel", "markPhonies", "(Z)V"⟩, 30), (⟨"FileBuilderModel", "make", "(I)V"⟩, 30), (⟨"FileBuilderModel", "record", "(III)V"⟩, 30), (⟨"FileBuilderModel", "append", "(I)V"⟩, 30), (⟨"FileBuilderModel", "letGo", "()I"⟩, 30), (⟨"FileBuilderModel", "right", "(I)Z"⟩, 30)]
theorem lw_r5 : ∀ q ∈ lw_privs_5, lw_okq q := List.forall_mem_cons.mpr ⟨lw_p64, List.forall_mem_cons.mpr ⟨lw_p65, List.forall_mem_cons.mpr ⟨lw_p66, List.forall_mem_cons.mpr ⟨lw_p67, List.forall_mem_cons.mpr ⟨lw_p68, List.forall_mem_cons.mpr ⟨lw_p69, List.forall_mem_cons.mpr ⟨lw_p70, List.forall_mem_cons.mpr ⟨lw_p71, List.forall_mem_cons.mpr ⟨lw_p72, List.forall_mem_cons.mpr ⟨lw_p73, List.forall_mem_cons.mpr ⟨lw_p74, List.forall_mem_cons.mpr ⟨lw_p75, List.forall_mem_cons.mpr ⟨lw_p76, List.forall_mem_cons.mpr ⟨lw_p77, List.forall_mem_cons.mpr ⟨lw_p78, fun _ h => absurd h List.not_mem_nil⟩⟩⟩⟩⟩⟩⟩⟩⟩⟩⟩⟩⟩⟩⟩
def lw_privs : List (MethodName × Nat) := lw_privs_1 ++ (lw_privs_2 ++ (lw_privs_3 ++ (lw_privs_4 ++ (lw_privs_5))))
def lw_tbl : List Cond := k2_sels lw_privs ++ tables_1
theorem lw_privs_ok : ∀ q ∈ lw_privs, lw_okq q := by
  show ∀ q ∈ lw_privs_1 ++ (lw_privs_2 ++ (lw_privs_3 ++ (lw_privs_4 ++ (lw_privs_5)))), lw_okq q
  exact List.forall_mem_append.mpr ⟨lw_r1, List.forall_mem_append.mpr ⟨lw_r2, List.forall_mem_append.mpr ⟨lw_r3, List.forall_mem_append.mpr ⟨lw_r4, lw_r5⟩⟩⟩⟩
end
section
/-! numbers -/
def xIn (x lo hi : Int32) : Int32 := if lo ≤ x ∧ x ≤ hi then 1 else 0
def xOut (x lo hi : Int32) : Int32 := if x < lo ∨ hi < x then 1 else 0
theorem xIn_1 {x lo hi : Int32} (h1 : ¬ x < lo) (h2 : ¬ hi < x) : (1 : Int32) = xIn x lo hi := by
  unfold xIn
  rw [if_pos]
  simp only [Int32.le_iff_toInt_le, Int32.lt_iff_toInt_lt] at *
  omega
theorem xIn_0a {x lo hi : Int32} (h1 : x < lo) : (0 : Int32) = xIn x lo hi := by
  unfold xIn
  rw [if_neg]
  simp only [Int32.le_iff_toInt_le, Int32.lt_iff_toInt_lt] at *
  omega
theorem xIn_0b {x lo hi : Int32} (h1 : hi < x) : (0 : Int32) = xIn x lo hi := by
  unfold xIn
  rw [if_neg]
  simp only [Int32.le_iff_toInt_le, Int32.lt_iff_toInt_lt] at *
  omega
theorem xOut_1a {x lo hi : Int32} (h1 : x < lo) : (1 : Int32) = xOut x lo hi := by
  unfold xOut
  rw [if_pos (Or.inl h1)]
theorem xOut_1b {x lo hi : Int32} (h1 : hi < x) : (1 : Int32) = xOut x lo hi := by
  unfold xOut
  rw [if_pos (Or.inr h1)]
theorem xOut_0 {x lo hi : Int32} (h1 : ¬ x < lo) (h2 : ¬ hi < x) : (0 : Int32) = xOut x lo hi := by
  unfold xOut
  rw [if_neg (fun h => h.elim h1 h2)]
theorem xOut_In (x lo hi : Int32) : xOut x lo hi = 0 ↔ xIn x lo hi = 1 := by
  unfold xOut xIn
  simp only [Int32.le_iff_toInt_le, Int32.lt_iff_toInt_lt]
  by_cases h : x.toInt < lo.toInt ∨ hi.toInt < x.toInt
  · rw [if_pos h, if_neg (by omega)]
    decide
  · rw [if_neg h, if_pos (by omega)]
    decide
theorem xIn_bin (x lo hi : Int32) : xIn x lo hi = 0 ∨ xIn x lo hi = 1 := by
  unfold xIn
  by_cases h : lo ≤ x ∧ x ≤ hi
  · rw [if_pos h]; exact Or.inr rfl
  · rw [if_neg h]; exact Or.inl rfl
theorem xOut_bin (x lo hi : Int32) : xOut x lo hi = 0 ∨ xOut x lo hi = 1 := by
  unfold xOut
  by_cases h : x < lo ∨ hi < x
  · rw [if_pos h]; exact Or.inr rfl
  · rw [if_neg h]; exact Or.inl rfl
theorem xIn_nar (x lo hi : Int32) : narrow .boolean (.int (xIn x lo hi)) = .int (xIn x lo hi) := by
  rcases xIn_bin x lo hi with h | h <;> rw [h] <;> rfl
theorem xOut_nar (x lo hi : Int32) : narrow .boolean (.int (xOut x lo hi)) = .int (xOut x lo hi) := by
  rcases xOut_bin x lo hi with h | h <;> rw [h] <;> rfl
theorem xIn_none (x : Int32) : xIn x 0 (-1) = 0 := by
  unfold xIn
  rw [if_neg]
  simp only [Int32.le_iff_toInt_le]
  have h0 : (0 : Int32).toInt = 0 := by decide
  have h1 : (-1 : Int32).toInt = -1 := by decide
  omega
theorem xOut_none (x : Int32) : xOut x 0 (-1) = 1 := by
  unfold xOut
  rw [if_pos]
  simp only [Int32.lt_iff_toInt_lt]
  have h0 : (0 : Int32).toInt = 0 := by decide
  have h1 : (-1 : Int32).toInt = -1 := by decide
  omega
theorem xIn_ge {x lo hi : Int32} (h : xIn x lo hi = 1) : lo ≤ x ∧ x ≤ hi := by
  unfold xIn at h
  by_cases g : lo ≤ x ∧ x ≤ hi
  · exact g
  · rw [if_neg g] at h
    exact absurd h (by decide)
theorem xIn_in {x hi : Int32} {n : Nat} (h : xIn x 0 hi = 1) (hn : hi.toInt + 1 = n) : vp_in x n := by
  rw [vp_in_iff]
  obtain ⟨h1, h2⟩ := xIn_ge h
  simp only [Int32.le_iff_toInt_le] at h1 h2
  have h0 : (0 : Int32).toInt = 0 := by decide
  omega
theorem xne0 {x : Int32} (h : x = 0 ∨ x = 1) (h0 : ¬ x = 0) : x = 1 := h.resolve_left h0
theorem xne1 {x : Int32} (h : x = 1) : ¬ x = 0 := by rw [h]; decide
section XN
variable {p : Program} {l : Launch} {e : Env} {R : Room} {s : State} {m : MethodId} {args : Array Value} {below : List Frame} {meth : Method} {c : Code} {H : Heap} {locs : List Loc} {cells slots : Nat} {Q : State → Prop}
theorem xnum {pc : Nat} {ls : Array Slot} {rest : List Value} {x v : Int32} (h : x = v) (k : W p l e R s m args below meth c H locs cells slots Q (F0 m pc ls (.int v :: rest))) : W p l e R s m args below meth c H locs cells slots Q (F0 m pc ls (.int x :: rest)) := h ▸ k
end XN
end
section
/-! ends by a throw: contract, walk, call, leaving, catching -/
def xt_FE (first t : State) (L : List Loc) (k n : Nat) : Prop := first.WarmedH t.vm ∧ first.sameButNew ({ t with vm := first.vm } : State) L k n
def xt_E (X : String) (st : State) (o : Outcome) (t : State) : Prop :=
  ∃ (a : Addr) (cell : Cell), o = .threw a ∧ st.heap.size ≤ a ∧ t.heap[a]? = some cell ∧ cell.vm.isStatics = false ∧ st.vm.findClass X = some cell.cls
def xt_Met (l : Launch) (y : MethodName) (ws : List Cond) (rm : Room) (Pc : Array Value → State → Prop) (X : String) (mc ms : Nat) (A : Nat → Prop) : Prop :=
  MetFree l y (headSpec ws rm) Pc (fun _ _ _ _ _ => True) (fun _ st o t => xt_E X st o t ∧ ∃ L, xt_FE st t L mc ms ∧ ∀ q ∈ L, A q.base)
def xt_Q (below : List Frame) (X : String) (s : State) (mc ms : Nat) (A : Nat → Prop) : State → Prop := fun t =>
  ∃ o, t.status = .running ∧ Ended t below o ∧ xt_E X s o t ∧ ∃ L, xt_FE s t L mc ms ∧ ∀ q ∈ L, A q.base
theorem xt_F {A : Nat → Prop} {s t : State} {L : List Loc} {k n : Nat} (h : s.sameButNew ({ t with vm := s.vm } : State) L k n) (hL : ∀ q ∈ L, A q.base) : va_F A s t := by
  obtain ⟨-, h1, -, -, -, h6⟩ := h
  refine ⟨h1, fun q hq hA => ?_⟩
  have hs : s.heap[q]? = some s.heap[q] := Array.getElem?_eq_getElem hq
  obtain ⟨c', e1, e2, e3, e4⟩ := h6 q _ hs
  have e5 : c'.slots = s.heap[q].slots := by
    apply Array.ext_getElem?
    intro i
    exact e4 i (fun hm => hA (hL _ hm))
  have e6 : c' = s.heap[q] := e2.trans (by rw [e5])
  rw [hs, ← e6]
  exact e1
theorem xt_ofW {l : Launch} {y : MethodName} {ws ws' : List Cond} {rm : Room} {Pc : Array Value → State → Prop} {X : String} {mc ms : Nat} {A : Nat → Prop} {cc : ByteArray} {maxL : Nat} {ret : Option FieldType}
    (hy : plainName y.cls = true) (hw : ws = Cond.code y cc maxL ret :: ws')
    (body : ∀ p e s m args below meth c s₁, BodyLoose p l y (headSpec ws rm) cc maxL ret e s m args below meth c s₁ → c.maxLocals = maxL → Pc args s →
      W p l e (headSpec ws rm).room s m args below meth c s.heap [] 0 0 (xt_Q below X s mc ms A) (entryFrame m args maxL)) : xt_Met l y ws rm Pc X mc ms A := by
  refine MetFree.of_bodyS (code := cc) (maxLocals := maxL) (ret := ret) hy ?_ ?_
  · intro args s m h hn
    obtain ⟨meth, c, h1, h2, h3, h4, h5, h6, -, -⟩ := Cond.code_spec hn (atoms_spec (ws := ws) h _ (by rw [hw]; exact List.mem_cons_self))
    exact ⟨meth, c, h1, h2, h3, h4, h5, h6⟩
  · intro p e s m args below meth c s₁ B hml hP _
    have hh0 : s₁.heap = s.heap := by rw [B.state]; rfl
    obtain ⟨t, a1, o, b1, b2, b3⟩ := body p e s m args below meth c s₁ B hml hP s₁ hh0 (Stand.of_body B)
    exact ⟨t, o, a1, b1, b2, ⟨b3.1, b3.2⟩⟩
section XT1
variable {p : Program} {l : Launch} {e : Env} {R : Room} {s : State} {m : MethodId} {args : Array Value} {below : List Frame} {meth : Method} {c : Code} {H : Heap} {locs : List Loc} {cells slots : Nat} {Q : State → Prop}
variable {cc : ByteArray} {pc : Nat} {ls : Array Slot} {rest : List Value} {A : Nat → Prop}
/-- new X("..") and athrow, out of the method -/
theorem xt_throw {mc ms : Nat} (hexec : p.tables.exec = Jvm.exec) (hb : c.code = cc) (hml : c.maxLocals = ls.size) (hfl : l.flags = pinnedFlags ++ [noTraceFlag]) (hlocks : meth.locks = false) (hemp : c.exceptionTable.isEmpty = true)
    {own X : String} {names : List String} {ia ib ic q : Nat} {tx : String} (hown : s.vm.findClass own = some m.cls)
    (hcl : (Cond.classLink own ia X).before args s = true) (hinst : (Cond.instantiable X 6).before args s = true) (hini : (Cond.initialized X).before args s = true)
    (hX : Bundle.fit X = true) (hN : ∀ n ∈ names, Bundle.fit n = true) (hat : ∀ a ∈ Bundle.ownAtoms own ic X names, a.before args s = true) (hZ : vk_R own ib tx q s)
    (hS : va_S A s.heap H locs) (hAs : ∀ q, A q → ∀ cell, s.heap[q]? = some cell → cell.vm.isStatics = false)
    (hc : cells + 1 ≤ R.cells) (hsl : slots + 6 ≤ R.slots) (hmc : cells + 1 ≤ mc) (hms : slots + 6 ≤ ms)
    (hRf : names.length + 3 < R.frames) (hRl : ((rest.map fun v => v.category).sum + 1) + (13 * (names.length + 1) + 42) ≤ R.locals)
    (d0 : decode cc pc = .ok (.new ia, 3)) (d3 : decode cc (pc + 3) = .ok (.dup, 1)) (d4 : decode cc (pc + 3 + 1) = .ok (.ldc ib, 2)) (d6 : decode cc (pc + 3 + 1 + 2) = .ok (.invokespecial ic, 3)) (d9 : decode cc (pc + 3 + 1 + 2 + 3) = .ok (.athrow, 1)) :
    W p l e R s m args below meth c H locs cells slots (xt_Q below X s mc ms A) (F0 m pc ls rest) := by
  obtain ⟨cX, kX0, hfX, hkX0, -⟩ := Cond.instantiable_spec hinst
  refine W.newcK (g := F0 m pc ls rest) hexec hb hown hcl hinst hini rfl d0 hc hsl hfX rfl fun H1 kC hkC e1 z1 o1 => ?_
  refine lv_dup hexec hb d3 rfl ?_
  refine va_ldcS hexec hb hown hZ d4 ?_
  intro T hT X0
  have hout : ∀ x ∈ c.exceptionTable.toList, covers x (pc + 3 + 1 + 2 + 3) = false := by
    intro x hx
    have h0 : c.exceptionTable.size = 0 := by simpa [Array.isEmpty] using hemp
    have h1 : c.exceptionTable.toList = [] := List.eq_nil_of_length_eq_zero (by simpa using h0)
    rw [h1] at hx
    cases hx
  obtain ⟨U, st, hrun, hend, hW, hsame, ce, hce, hoc⟩ := X0.ctorThrowS hexec (Launch.traces_off hfl X0.admits) hown hX hN hat (fun x hx cell hcell => hAs _ (hS.2.2 x hx) cell hcell) hfX hkC (a := H.size) (by rw [hT]; exact e1) hS.1 (msg := .ref q) rfl
    (g := F0 m (pc + 3 + 1 + 2) ls (.ref q :: .ref H.size :: .ref H.size :: rest)) rfl hml.symm rfl rfl (rest := rest) rfl (by rw [hb]; exact d6) (by rw [hb]; exact d9) hout hRf (by
      show 2 * 0 + (1 + (rest.map fun v => v.category).sum) + _ ≤ _
      omega) hlocks
  exact ⟨U, st, .threw H.size, hrun, hend, ⟨H.size, ce, rfl, hS.1, hce, by rw [hoc.vm]; rfl, hoc.cls⟩, locs, ⟨hW, hsame.mono hmc hms⟩, hS.2.2⟩
/-- the machine while x is thrown over the frame g -/
def xt_W (p : Program) (l : Launch) (e : Env) (R : Room) (s : State) (m : MethodId) (args : Array Value) (below : List Frame) (meth : Method) (c : Code) (H : Heap) (locs : List Loc) (cells slots : Nat) (Q : State → Prop) (g : JFrame) (x : Addr) : Prop :=
  ∀ T : State, T.heap = H → Stand p l e R s m args below meth c T locs cells slots → ∃ t, Steps p.tables e below ((T.setTop g).pushFrame (.throwing x)) t ∧ Q t
theorem xt_back {y : MethodName} {bytes : ByteArray} {maxL len Wt mc ms : Nat} {ret : Option FieldType} {ws : List Cond} {rm : Room} {Pc : Array Value → State → Prop} {X : String}
    (hM : xt_Met l y ws rm Pc X mc ms A) (hblind : FrameBlind Pc) (hrc : rm.cells = mc) (hrs : rm.slots = ms)
    (hframes : rm.frames + 1 ≤ R.frames) (hlocals : Wt + (maxL + 11) + rm.locals ≤ R.locals)
    (hws : ∀ w ∈ ws, ∀ (a' : Array Value) (U : State), s.WarmedH U.vm → w.before a' U = true) (hcode : Cond.code y bytes maxL ret ∈ ws) (hinit : ∀ (a' : Array Value) (U : State), s.WarmedH U.vm → (Cond.initialized y.cls).before a' U = true)
    {U : State} {Ls : List Loc} {c0 s0 : Nat} (X0 : Stand p l e R s m args below meth c U Ls c0 s0) {g : JFrame} (hg : g.method = m) (hsize : g.locals.size = c.maxLocals) {ig : Instr} (hdg : decode c.code g.pc = .ok (ig, len))
    (hW : 2 * g.monitorRoom + (g.stack.map fun v => v.category).sum ≤ Wt) {mk : MethodId} (hn : U.methodNamed? y = some mk) {a : Array Value} (hP : Pc a U) (hc0 : c0 + mc ≤ R.cells) (hs0 : s0 + ms ≤ R.slots) :
    ∃ (x : Addr) (cell : Cell) (V : State) (L : List Loc), Stand p l e R s m args below meth c V (Ls ++ L) (c0 + mc) (s0 + ms) ∧ (∀ q ∈ L, A q.base) ∧ U.heap.size ≤ x ∧ V.heap[x]? = some cell ∧ cell.vm.isStatics = false ∧ U.vm.findClass X = some cell.cls ∧ va_F A U V ∧
      Steps p.tables e below (doInvoke e (U.setTop g) [] mk a).1 ((V.setTop g).pushFrame (.throwing x)) := by
  have h2 := hws _ hcode a U X0.warmed
  have h3 := hinit a U X0.warmed
  have h1 : (headSpec ws rm).pre.before a U = true := atoms_intro fun w hw => hws w hw _ _ X0.warmed
  obtain ⟨methY, cY, hmY, hcY, -, hlY, -, -, -, -⟩ := Cond.code_spec hn h2
  obtain ⟨kY, hkY, -⟩ := className_of_methodNamed hn
  have hinitY : kY.init = .initialized := Cond.initialized_spec (findClass_of_methodNamed hn) hkY h3
  have h : At U g.method c below := by rw [hg]; exact X0.here
  have hl2 : 2 * g.monitorRoom + (g.stack.map fun v => v.category).sum + (cY.maxLocals + 11) + rm.locals ≤ R.locals := by rw [hlY]; omega
  have happ : (headSpec ws rm).appliesLoose y e.platform (U.calling g mk a) = true :=
    Spec.appliesLoose_calling (g := g) h hdg hn hkY hinitY
      (X0.room_calling (g := g) (R' := (headSpec ws rm).room) hsize hmY hcY hframes hl2 (by show c0 + rm.cells ≤ _; rw [hrc]; exact hc0) (by show s0 + rm.slots ≤ _; rw [hrs]; exact hs0)) h1
  obtain ⟨mid, hmid⟩ := h.above
  have hfr : (U.setTop g).frames = (.java g :: mid) ++ below := by rw [State.frames_setTop' g h.top, hmid]; rfl
  obtain ⟨o, s₂, hsteps, -, hend, hq⟩ := Steps.callFree hM p X0.admits X0.cas X0.clock (acts := []) hfr happ (hblind _ _ _ _ hP) trivial
  rw [State.frames_setTop' g h.top] at hend
  have hq' : xt_E X (U.calling g mk a) o s₂ ∧ ∃ L, xt_FE (U.calling g mk a) s₂ L mc ms ∧ ∀ q ∈ L, A q.base := hq
  obtain ⟨⟨x, cell, rfl, hx1, hx2, hx3, hx4⟩, L, ⟨hW₂, hsb⟩, hL⟩ := hq'
  have hfF := xt_F hsb hL
  obtain ⟨e2, q2, q3, q4, q5, q6⟩ := id hsb
  have e3 : s₂ = ({ (U.calling g mk a).setFrames s₂.frames with heap := s₂.heap, slotsUsed := s₂.slotsUsed } : State).setVm s₂.vm := by
    have : s₂ = ({ s₂ with vm := (U.calling g mk a).vm } : State).setVm s₂.vm := rfl
    rw [e2] at this
    exact this
  have hf₂ : s₂.frames = .throwing x :: .java g :: U.frames.tail := hend
  have hW' : U.WarmedH s₂.vm := hW₂
  obtain ⟨g₀, hg0⟩ := Option.isSome_iff_exists.mp h.top
  obtain ⟨r, hr⟩ := State.topJava?_eq_some.mp hg0
  have hs₂ : s₂ = ((({ U with heap := s₂.heap, slotsUsed := s₂.slotsUsed } : State).setVm s₂.vm).setTop g).pushFrame (.throwing x) := by
    have hr' : (({ U with heap := s₂.heap, slotsUsed := s₂.slotsUsed } : State).setVm s₂.vm).frames = .java g₀ :: r := hr
    refine e3.trans ?_
    rw [hf₂, State.calling_eq h.top, State.setFrames_setFrames, State.pushFrame, State.frames_setTop _ hr', State.setTop_of_frames _ hr', State.setFrames_setFrames, hr]
    rfl
  have hsame : U.sameButNew ({ U with heap := s₂.heap, slotsUsed := s₂.slotsUsed } : State) L mc ms := by
    refine ⟨?_, q2, q3, q4, q5, q6⟩
    obtain ⟨t, ht, -⟩ := State.frames_cons hr
    show ({ U with heap := s₂.heap, slotsUsed := s₂.slotsUsed } : State) = { U.setFrames U.frames with heap := s₂.heap, slotsUsed := s₂.slotsUsed }
    rw [State.setFrames_self ht]
  subst hg
  refine ⟨x, cell, (({ U with heap := s₂.heap, slotsUsed := s₂.slotsUsed } : State).setVm s₂.vm), L,
    ⟨X0.admits, X0.cas, X0.clock, X0.frames, X0.room, X0.hears, X0.method, X0.code, (X0.here.setHeapUsed s₂.heap s₂.slotsUsed).setVm hW'.alike, X0.tail, State.WarmedH.trans X0.warmed hW', X0.limits, X0.bytes, X0.same.trans (hsame.setVm s.vm)⟩, hL, hx1, hx2, hx3, hx4, hfF, ?_⟩
  rw [← hs₂]
  exact hsteps
/-- a call (invokevirtual) of a method that throws -/
theorem xt_callV {y : MethodName} {bytes : ByteArray} {maxL nL mc ms n index : Nat} {ret : Option FieldType} {ws : List Cond} {rm : Room} {Pc : Array Value → State → Prop} {X : String} {Ts : List Cond} {own C : String} {b : Addr} {As : List Value} {st0 : List Value} {A0 : Nat → Prop} {H0 : Heap}
    (S : CallFix p m c cc nL s args Ts own) (hM : xt_Met l y ws rm Pc X mc ms A) (cw : CallW R s args own C index y bytes maxL ret ws rm mc ms n) (hp : PreV s H C b Pc As)
    (hn : As.length = n) (hsize : ls.size = nL) (hstack : st0 = As.reverse ++ .ref b :: rest) (hW : (rest.map fun v => v.category).sum ≤ 8) (hdg : decode cc pc = .ok (.invokevirtual index, 3)) (hf : cells + mc ≤ R.cells ∧ slots + ms ≤ R.slots)
    (hS : va_S A0 H0 H locs) (hA : ∀ q, q < H.size → A q → A0 q) (hfA : ∀ q, A q → A0 q)
    (kk : ∀ (x : Addr) (cell : Cell) (H1 : Heap) (locs1 : List Loc), H.size ≤ x → H1[x]? = some cell → cell.vm.isStatics = false → s.vm.findClass X = some cell.cls → H.size ≤ H1.size → (∀ q : Nat, q < H.size → ¬ A q → H1[q]? = H[q]?) → va_S A0 H0 H1 locs1 →
      xt_W p l e R s m args below meth c H1 locs1 (cells + mc) (slots + ms) Q (F0 m pc ls rest) x) :
    W p l e R s m args below meth c H locs cells slots Q (F0 m pc ls st0) := by
  obtain ⟨⟨hrc, hrs, hfr, hlo, hws, hcw, hcode, hini, hy, hlen, hl⟩, hin, hse⟩ := cw
  obtain ⟨hx, hb, hml, ho, -⟩ := S
  obtain ⟨hbl, ⟨cellB, hcB, hoB, hclB⟩, hPc⟩ := hp
  intro T hT X0
  obtain ⟨mk, methM, hnamed, hmethM, hstM, habM⟩ := Cond.instanceMethod_spec hin
  obtain ⟨methM', cM, hmethM', -, -, -, -, -, -, hsigM⟩ := Cond.code_spec hnamed hcode
  cases hmethM.symm.trans hmethM'
  obtain ⟨c2, r2, m2, q1, q2, q3, q4, kP, hkP, hkPi⟩ := Cond.selects_spec hse
  cases hclB.symm.trans q1
  cases (State.methodFound?_of_named hnamed hy).symm.trans q2
  cases hnamed.symm.trans q3
  have hselP : selectMethod e.platform s.vm cellB.cls mk = .method mk := by rw [Launch.admits_selectMethod X0.admits]; exact q4
  obtain ⟨vm₁, X₁, hstep₁⟩ := X0.invokevirtual hx ho hl hnamed hmethM hstM hkP hkPi hy (a := b) (cell := cellB) (by rw [hT]; exact hcB)
    (fun z h => by rw [h] at hoB; cases hoB) hselP hmethM habM hkP hkPi (g := F0 m pc ls st0) rfl (argsL := As) (rest := rest) (hn.trans (hlen _ hsigM)) hstack (by rw [hb]; exact hdg)
  obtain ⟨x, cell, V, L, XV, hL, hx1, hx2, hx3, hx4, hx5, hst⟩ := xt_back (Wt := 8) (bytes := bytes) (maxL := maxL) (ret := ret) hM hbl hrc hrs hfr hlo hws hcw (fun a' U hW => word_at hW (Or.inl (by first | rfl | simp [Cond.onTables, Cond.keeps, Cond.steady])) hini) X₁
    (g := { F0 m pc ls st0 with stack := rest }) rfl (hsize.trans hml.symm) (by rw [hb]; exact hdg) (by show 2 * 0 + (rest.map fun v => v.category).sum ≤ 8; omega) (X₁.named hnamed) (hPc (T.setVm vm₁) hT X₁.warmed) hf.1 hf.2
  have hTs : (T.setVm vm₁).heap = H := hT
  rw [hTs] at hx1
  have hcl4 : s.vm.findClass X = some cell.cls := by rw [← X₁.warmed.alike.findClass]; exact hx4
  obtain ⟨z1, z2⟩ := hx5
  rw [hTs] at z1 z2
  obtain ⟨t, a1, b1⟩ := kk x cell V.heap (locs ++ L) hx1 hx2 hx3 hcl4 z1 z2
    ⟨Nat.le_trans hS.1 z1, fun q h1 h2 => by rw [z2 q (Nat.lt_of_lt_of_le h1 hS.1) (fun z => h2 (hA q (Nat.lt_of_lt_of_le h1 hS.1) z))]; exact hS.2.1 q h1 h2, fun q hq => by
      rcases List.mem_append.mp hq with h | h
      · exact hS.2.2 q h
      · exact hfA _ (hL q h)⟩ V rfl XV
  exact ⟨t, hstep₁ _ fun acts => by rw [doInvoke_state]; exact hst.trans a1, b1⟩
/-- out of the method, no handler -/
theorem xt_leave {X : String} {mc ms : Nat} {x : Addr} {cell : Cell} {st : List Value} (hlocks : meth.locks = false) (hemp : c.exceptionTable.isEmpty = true) (hS : va_S A s.heap H locs) (hx1 : s.heap.size ≤ x) (hx2 : H[x]? = some cell) (hx3 : cell.vm.isStatics = false) (hx4 : s.vm.findClass X = some cell.cls) (hmc : cells ≤ mc) (hms : slots ≤ ms) :
    xt_W p l e R s m args below meth c H locs cells slots (xt_Q below X s mc ms A) (F0 m pc ls st) x := by
  intro T hT X0
  have hout : ∀ y ∈ c.exceptionTable.toList, covers y pc = false := by
    intro y hy
    have h0 : c.exceptionTable.size = 0 := by simpa [Array.isEmpty] using hemp
    have h1 : c.exceptionTable.toList = [] := List.eq_nil_of_length_eq_zero (by simpa using h0)
    rw [h1] at hy
    cases hy
  obtain ⟨w1, w2, w3, w4, w5⟩ := X0.leaveThrown x (g := F0 m pc ls st) rfl rfl rfl hout hlocks
  exact ⟨_, w1, .threw x, w2, w3, ⟨x, cell, rfl, hx1, by rw [← hT] at hx2; exact hx2, hx3, hx4⟩, locs, ⟨w4, w5.mono hmc hms⟩, hS.2.2⟩
end XT1
end
section
/-! a thrown object caught by a handler whose catch types may still be unresolved -/
def xt_Go (e : Env) (s : State) (f : JFrame) (a : Addr) (t : List ExceptionTableEntry) (h : Handler) (vm' : Vm) : Prop :=
  ∀ (Q : Handler → Pre) (E : CtlPost) (d : Bool) (acts : List Action), wp (findHandler.go f a t) Q E e d acts s ↔ Q h d acts (s.setVm vm')
theorem xt_go_hit {e : Env} {s : State} {f : JFrame} {a : Addr} {x : ExceptionTableEntry} {t : List ExceptionTableEntry} {c : ClassId} {cell : Cell} {vm' : Vm}
    (hx : covers x f.pc = true) (h0 : x.catchType ≠ 0) (hg : (resolveClass f.method.cls x.catchType).Gives e.toSetting s.vm (.ok c) vm') (hsz : vm'.classes.size ≤ s.vm.classes.size)
    (hcell : s.heap[a]? = some cell) (hobj : ∀ k, cell.vm ≠ .statics k) (hk : ∃ k, vm'.classes[cell.cls]? = some k) (hc : ∃ k, vm'.classes[c]? = some k) (hfit : vm'.assignable cell.cls c = true) :
    xt_Go e s f a (x :: t) (.found x.handlerPc) vm' := by
  intro Q E d acts
  obtain ⟨ha, ht⟩ := hg.op (op := VmOp.resolveClass f.method.cls x.catchType) rfl
  simp only [covers] at hx
  simp [findHandler.go, hx, h0, ha, ht, hsz, hcell, hobj, hk, hc, hfit, VmOp.dirties, VmOp.acts]
theorem xt_go_pass {e : Env} {s : State} {f : JFrame} {a : Addr} {x : ExceptionTableEntry} {t : List ExceptionTableEntry} {c : ClassId} {cell : Cell} {vm' vm₂ : Vm} {h : Handler}
    (hx : covers x f.pc = true) (h0 : x.catchType ≠ 0) (hg : (resolveClass f.method.cls x.catchType).Gives e.toSetting s.vm (.ok c) vm') (hsz : vm'.classes.size ≤ s.vm.classes.size)
    (hcell : s.heap[a]? = some cell) (hobj : ∀ k, cell.vm ≠ .statics k) (hk : ∃ k, vm'.classes[cell.cls]? = some k) (hc : ∃ k, vm'.classes[c]? = some k) (hfit : vm'.assignable cell.cls c = false)
    (hr : xt_Go e (s.setVm vm') f a t h vm₂) : xt_Go e s f a (x :: t) h vm₂ := by
  intro Q E d acts
  obtain ⟨ha, ht⟩ := hg.op (op := VmOp.resolveClass f.method.cls x.catchType) rfl
  have e2 : (s.setVm vm').setVm vm₂ = s.setVm vm₂ := rfl
  have hr' := hr Q E d acts
  rw [e2] at hr'
  rw [← hr']
  simp only [covers] at hx
  simp [findHandler.go, hx, h0, ha, ht, hsz, hcell, hobj, hk, hc, hfit, VmOp.dirties, VmOp.acts]
/-- the clause that takes an X thrown at pc -/
def xt_Sel (own X : String) (pc : Nat) (args : Array Value) (s : State) : List (Nat × Nat × Nat × Nat) → Nat → Prop
  | [], _ => False
  | q :: t, h => q.1 ≤ pc ∧ pc < q.2.1 ∧ q.2.2.2 ≠ 0 ∧ ∃ C, (Cond.classLink own q.2.2.2 C).before args s = true ∧ ((q.2.2.1 = h ∧ (Cond.castable X C).before args s = true) ∨ (va_Nc X C s ∧ xt_Sel own X pc args s t h))
theorem xt_find {e : Env} {s : State} {m : MethodId} {args : Array Value} {own X : String} {pc h : Nat} {x : Addr} {cell : Cell} {f : JFrame} (hpl : e.platform.magicAccessors = ({} : Platform).magicAccessors) (hown : s.vm.findClass own = some m.cls) (hf : f.method = m) (hpc : f.pc = pc) (hx3 : cell.vm.isStatics = false) (hx4 : s.vm.findClass X = some cell.cls) :
    ∀ (hh : List (Nat × Nat × Nat × Nat)) (T : State), xt_Sel own X pc args s hh h → s.WarmedH T.vm → T.heap[x]? = some cell → ∃ vm', s.WarmedH vm' ∧ xt_Go e T f x (tableOf hh) (.found h) vm' := by
  intro hh
  induction hh with
  | nil => intro T hs _ _; exact hs.elim
  | cons q t ih =>
    intro T hs hW hcell
    obtain ⟨h1, h2, h0, C, hlink, hor⟩ := hs
    obtain ⟨c', hc', hcl⟩ := Cond.classLink_spec hown hlink e.platform hpl
    obtain ⟨dk, _, _, kt, hd, _, _, _, _, hkt, _, hopen⟩ := hcl.here
    have hcl₀ := hW.classLinks hcl
    have hW' : s.WarmedH (T.vm.noted m.cls q.2.2.2 (.cls c')) := hW.noted hd hopen (State.rightAt_cls hcl)
    obtain ⟨ks, hks, -⟩ := Vm.findClass_spec hx4
    obtain ⟨ks', hks', -⟩ := hW'.alike.2.2 _ _ hks
    obtain ⟨kt', hkt', -⟩ := hW'.alike.2.2 _ _ hkt
    have hcov : covers (⟨q.1, q.2.1, q.2.2.1, q.2.2.2⟩ : ExceptionTableEntry) f.pc = true := by
      simp only [covers, hpc, Bool.and_eq_true, decide_eq_true_eq]
      exact ⟨h1, h2⟩
    have hg : (resolveClass f.method.cls (⟨q.1, q.2.1, q.2.2.1, q.2.2.2⟩ : ExceptionTableEntry).catchType).Gives e.toSetting T.vm (.ok c') (T.vm.noted m.cls q.2.2.2 (.cls c')) := by
      rw [hf]; exact resolveClass_links e.toSetting hcl₀
    have hsz : (T.vm.noted m.cls q.2.2.2 (.cls c')).classes.size ≤ T.vm.classes.size := by no_record
    rcases hor with ⟨rfl, hcast⟩ | ⟨⟨c1, t1, n1, n2, n3⟩, hrest⟩
    · obtain ⟨c3, c4, hc3, hc4, hasg⟩ := Cond.castable_spec hcast
      cases hx4.symm.trans hc3
      cases hc'.symm.trans hc4
      refine ⟨_, hW', xt_go_hit hcov h0 hg hsz hcell (VmData.ne_statics_of hx3) ⟨ks', hks'⟩ ⟨kt', hkt'⟩ ?_⟩
      rw [hW'.alike.assignable]; exact hasg
    · cases hx4.symm.trans n1
      cases hc'.symm.trans n2
      obtain ⟨vm₂, hW₂, hgo⟩ := ih (T.setVm (T.vm.noted m.cls q.2.2.2 (.cls c'))) hrest hW' hcell
      refine ⟨vm₂, hW₂, xt_go_pass hcov h0 hg hsz hcell (VmData.ne_statics_of hx3) ⟨ks', hks'⟩ ⟨kt', hkt'⟩ ?_ hgo⟩
      rw [hW'.alike.assignable]; exact n3
theorem xt_stepCatch {e : Env} {s : State} {a : Addr} {f : JFrame} {r : List Frame} {pc : Nat} {vm' : Vm} (hfind : ∀ (Q : Handler → Pre) (E : CtlPost) (d : Bool) (acts : List Action), wp (findHandler f a) Q E e d acts s ↔ Q (.found pc) d acts (s.setVm vm')) :
    (stepThrowing e s a (.java f :: r)).Is ((s.setVm vm').setFrames (.java { f with pc := pc, stack := [.ref a] } :: r)) [] := by
  simp only [stepThrowing, searchFrame, vmDo]
  generalize hr : Sem.go _ e false [] s = res
  obtain ⟨as, rfl, ha⟩ := Sem.eq_ok_of hr (a := Handler.found pc) (s' := s.setVm vm') (acts' := []) (by simp [hfind _ _ _ _])
  exact ⟨rfl, ha⟩
theorem xt_caught {tb : Tables} {e : Env} {s target : State} {g : JFrame} {c : Code} {below : List Frame} {a : Addr} {vm' : Vm} (h : At s g.method c below) {pc : Nat}
    (hfind : ∀ (Q : Handler → Pre) (E : CtlPost) (d : Bool) (acts : List Action), wp (findHandler g a) Q E e d acts ((s.setTop g).pushFrame (.throwing a)) ↔ Q (.found pc) d acts (((s.setTop g).pushFrame (.throwing a)).setVm vm'))
    (hrest : Steps tb e below ((s.setVm vm').setTop { g with pc := pc, stack := [.ref a] }) target) : Steps tb e below ((s.setTop g).pushFrame (.throwing a)) target := by
  obtain ⟨hgo, hw⟩ := h.throwing a
  refine Steps.head hgo hw ?_
  rw [stepThread_throwing (frames_entered h.top _), (xt_stepCatch (s := (s.setTop g).pushFrame (.throwing a)) hfind).1]
  obtain ⟨g₀, hg⟩ := Option.isSome_iff_exists.mp h.top
  obtain ⟨r, hr⟩ := State.topJava?_eq_some.mp hg
  have hr2 : (s.setVm vm').frames = .java g₀ :: r := hr
  rw [State.setTop_of_frames _ hr2] at hrest
  have e1 : (((s.setTop g).pushFrame (.throwing a)).setVm vm').setFrames (.java { g with pc := pc, stack := [.ref a] } :: s.frames.tail) = (s.setVm vm').setFrames (.java { g with pc := pc, stack := [.ref a] } :: r) := by
    have e2 : ((s.setTop g).pushFrame (.throwing a)).setFrames (.java { g with pc := pc, stack := [.ref a] } :: s.frames.tail) = s.setFrames (.java { g with pc := pc, stack := [.ref a] } :: r) := by
      rw [State.pushFrame, State.setFrames_setFrames, State.setTop_of_frames _ hr, State.setFrames_setFrames, hr]
      rfl
    have e3 := congrArg (fun z : State => z.setVm vm') e2
    exact e3
  rw [e1]
  exact hrest
section XT2
variable {p : Program} {l : Launch} {e : Env} {R : Room} {s : State} {m : MethodId} {args : Array Value} {below : List Frame} {meth : Method} {c : Code} {H : Heap} {locs : List Loc} {cells slots : Nat} {Q : State → Prop}
variable {pc : Nat} {ls : Array Slot}
theorem xt_catch {own X : String} {hh : List (Nat × Nat × Nat × Nat)} {hpc : Nat} {x : Addr} {cell : Cell} {st : List Value} (htab : c.exceptionTable.toList = tableOf hh) (hown : s.vm.findClass own = some m.cls)
    (hsel : xt_Sel own X pc args s hh hpc) (hx2 : H[x]? = some cell) (hx3 : cell.vm.isStatics = false) (hx4 : s.vm.findClass X = some cell.cls)
    (k : W p l e R s m args below meth c H locs cells slots Q (F0 m hpc ls [.ref x])) : xt_W p l e R s m args below meth c H locs cells slots Q (F0 m pc ls st) x := by
  intro T hT X0
  have hpl : e.platform.magicAccessors = ({} : Platform).magicAccessors := by rw [X0.admits.platform]
  have hv0 := Stand.throwing_vm T (F0 m pc ls st) x
  have hh0 := Stand.throwing_heap T (F0 m pc ls st) x
  obtain ⟨vm', hW', hgo⟩ := xt_find (e := e) (x := x) (f := F0 m pc ls st) hpl hown rfl rfl hx3 hx4 hh ((T.setTop (F0 m pc ls st)).pushFrame (.throwing x)) hsel (by rw [hv0]; exact X0.warmed) (by rw [hh0, hT]; exact hx2)
  have hm' : ((T.setTop (F0 m pc ls st)).pushFrame (.throwing x)).vm.method? (F0 m pc ls st).method = some meth := by rw [hv0]; exact X0.method'
  obtain ⟨t, a1, b1⟩ := k (T.setVm vm') hT (X0.noted hW')
  refine ⟨t, xt_caught (g := F0 m pc ls st) (vm' := vm') X0.here (fun Q E d acts => ?_) a1, b1⟩
  rw [W.findHandler_eq hm' X0.code, htab]
  exact hgo Q E d acts
end XT2
end
section
/-! what surrounds every call: the good words, the nest's links, the texts, what is no subclass of what, the statics of Throwable -/
def xTB : List Cond := lw_tbl.filter goodWord
theorem x_in {w : Cond} (h : w ∈ lw_tbl) (g : goodWord w = true) : w ∈ xTB := List.mem_filter.mpr ⟨h, g⟩
theorem x_tb {w : Cond} (k : Nat) (h : tables_1[k]? = some w) (g : goodWord w = true) : w ∈ xTB := x_in (List.mem_append_right _ (List.mem_of_getElem? h)) g
theorem x_sel {q : MethodName × Nat} (k : Nat) (h : lw_privs[k]? = some q) : Cond.selects q.1.cls q.1 q.1 ∈ xTB := x_in (List.mem_append_left _ (List.mem_map.mpr ⟨q, List.mem_of_getElem? h, rfl⟩)) rfl
theorem x_good {a b : Cond} (hb : b ∈ xTB) : GoodIn (a :: xTB) (b :: xTB) := by
  intro w hw
  rcases List.mem_cons.mp hw with rfl | hw
  · exact ⟨List.mem_cons_of_mem _ hb, good_of_word (List.mem_filter.mp hb).2⟩
  · exact ⟨List.mem_cons_of_mem _ hw, good_of_word (List.mem_filter.mp hw).2⟩
def xIsN : Cond → Bool
  | .fieldLinkNest _ _ _ _ _ _ => true
  | .methodLinkNest _ _ _ _ => true
  | _ => false
def xNT : List Cond := [(Jvm.Cond.methodLinkNest "FileBuilder" (11 : Nat) ({ cls := "FileBuilder$Disk", name := "<init>", desc := "()V" } : Jvm.MethodName) "FileBuilder"), (Jvm.Cond.fieldLinkNest "FileBuilder" (213 : Nat) "FileBuilder$Disk" "contents" "[I" "FileBuilder"), (Jvm.Cond.fieldLinkNest "FileBuilder" (216 : Nat) "FileBuilder$Disk" "times" "[I" "FileBuilder"), (Jvm.Cond.fieldLinkNest "FileBuilder" (146 : Nat) "FileBuilder$Disk" "there" "I" "FileBuilder"), (Jvm.Cond.methodLinkNest "FileBuilder" (18 : Nat) ({ cls := "FileBuilder$Graph", name := "<init>", desc := "()V" } : Jvm.MethodName) "FileBuilder"), (Jvm.Cond.fieldLinkNest "FileBuilder" (124 : Nat) "FileBuilder$Graph" "commands" "[I" "FileBuilder"), (Jvm.Cond.fieldLinkNest "FileBuilder" (307 : Nat) "FileBuilder$Graph" "pools" "[I" "FileBuilder"), (Jvm.Cond.fieldLinkNest "FileBuilder" (119 : Nat) "FileBuilder$Graph" "readBy" "[I" "FileBuilder"), (Jvm.Cond.fieldLinkNest "FileBuilder" (266 : Nat) "FileBuilder$Graph" "links" "[[I" "FileBuilder"), (Jvm.Cond.fieldLinkNest "FileBuilder" (72 : Nat) "FileBuilder$Graph" "count" "I" "FileBuilder"), (Jvm.Cond.methodLinkNest "FileBuilder" (25 : Nat) ({ cls := "FileBuilder$Readings", name := "<init>", desc := "()V" } : Jvm.MethodName) "FileBuilder"), (Jvm.Cond.fieldLinkNest "FileBuilder" (270 : Nat) "FileBuilder$Readings" "recorded" "[I" "FileBuilder"), (Jvm.Cond.fieldLinkNest "FileBuilder" (276 : Nat) "FileBuilder$Readings" "known" "[Z" "FileBuilder"), (Jvm.Cond.methodLinkNest "FileBuilder" (32 : Nat) ({ cls := "FileBuilder$RecordLog", name := "<init>", desc := "()V" } : Jvm.MethodName) "FileBuilder"), (Jvm.Cond.fieldLinkNest "FileBuilder" (229 : Nat) "FileBuilder$RecordLog" "bytes" "[I" "FileBuilder"), (Jvm.Cond.fieldLinkNest "FileBuilder" (223 : Nat) "FileBuilder$RecordLog" "commands" "[I" "FileBuilder"), (Jvm.Cond.fieldLinkNest "FileBuilder" (222 : Nat) "FileBuilder$RecordLog" "times" "[I" "FileBuilder"), (Jvm.Cond.fieldLinkNest "FileBuilder" (241 : Nat) "FileBuilder$RecordLog" "length" "I" "FileBuilder"), (Jvm.Cond.methodLinkNest "FileBuilder" (39 : Nat) ({ cls := "FileBuilder$Build", name := "<init>", desc := "()V" } : Jvm.MethodName) "FileBuilder"), (Jvm.Cond.fieldLinkNest "FileBuilder" (196 : Nat) "FileBuilder$Build" "steps" "[I" "FileBuilder"), (Jvm.Cond.fieldLinkNest "FileBuilder" (298 : Nat) "FileBuilder$Build" "jobs" "I" "FileBuilder"), (Jvm.Cond.fieldLinkNest "FileBuilder" (301 : Nat) "FileBuilder$Build" "fail" "I" "FileBuilder"), (Jvm.Cond.fieldLinkNest "FileBuilder" (207 : Nat) "FileBuilder$Build" "stage" "I" "FileBuilder"), (Jvm.Cond.methodLinkNest "FileBuilder" (76 : Nat) ({ cls := "FileBuilder$Build", name := "isUnderWay", desc := "()Z" } : Jvm.MethodName) "FileBuilder"), (Jvm.Cond.methodLinkNest "FileBuilder" (190 : Nat) ({ cls := "FileBuilder$Build", name := "countAt", desc := "(I)I" } : Jvm.MethodName) "FileBuilder"), (Jvm.Cond.methodLinkNest "FileBuilder" (259 : Nat) ({ cls := "FileBuilder$Graph", name := "behind", desc := "(IZ)I" } : Jvm.MethodName) "FileBuilder"), (Jvm.Cond.methodLinkNest "FileBuilder" (295 : Nat) ({ cls := "FileBuilder$Build", name := "isPending", desc := "(I)Z" } : Jvm.MethodName) "FileBuilder"), (Jvm.Cond.methodLinkNest "FileBuilder" (226 : Nat) ({ cls := "FileBuilder$RecordLog", name := "hasByte", desc := "(I)Z" } : Jvm.MethodName) "FileBuilder"), (Jvm.Cond.methodLinkNest "FileBuilder$RecordLog" (31 : Nat) ({ cls := "FileBuilder", name := "isIn", desc := "(III)Z" } : Jvm.MethodName) "FileBuilder"), (Jvm.Cond.methodLinkNest "FileBuilder" (85 : Nat) ({ cls := "FileBuilder$Graph", name := "addEdge", desc := "(III)I" } : Jvm.MethodName) "FileBuilder"), (Jvm.Cond.methodLinkNest "FileBuilder" (89 : Nat) ({ cls := "FileBuilder$Graph", name := "hasEdge", desc := "(I)Z" } : Jvm.MethodName) "FileBuilder"), (Jvm.Cond.methodLinkNest "FileBuilder$Graph" (33 : Nat) ({ cls := "FileBuilder", name := "isIn", desc := "(III)Z" } : Jvm.MethodName) "FileBuilder"), (Jvm.Cond.methodLinkNest "FileBuilder" (112 : Nat) ({ cls := "FileBuilder$Graph", name := "made", desc := "()I" } : Jvm.MethodName) "FileBuilder"), (Jvm.Cond.methodLinkNest "FileBuilder" (249 : Nat) ({ cls := "FileBuilder$Graph", name := "read", desc := "()I" } : Jvm.MethodName) "FileBuilder"), (Jvm.Cond.methodLinkNest "FileBuilder" (107 : Nat) ({ cls := "FileBuilder$Graph", name := "isPhony", desc := "(I)Z" } : Jvm.MethodName) "FileBuilder"), (Jvm.Cond.methodLinkNest "FileBuilder" (103 : Nat) ({ cls := "FileBuilder$Graph", name := "join", desc := "(III)V" } : Jvm.MethodName) "FileBuilder"), (Jvm.Cond.methodLinkNest "FileBuilder" (135 : Nat) ({ cls := "FileBuilder$Graph", name := "madeByPhonies", desc := "()I" } : Jvm.MethodName) "FileBuilder"), (Jvm.Cond.methodLinkNest "FileBuilder" (140 : Nat) ({ cls := "FileBuilder$Disk", name := "put", desc := "(II)V" } : Jvm.MethodName) "FileBuilder"), (Jvm.Cond.methodLinkNest "FileBuilder" (154 : Nat) ({ cls := "FileBuilder$Disk", name := "erase", desc := "(I)V" } : Jvm.MethodName) "FileBuilder"), (Jvm.Cond.methodLinkNest "FileBuilder" (161 : Nat) ({ cls := "FileBuilder$Graph", name := "reachedFrom", desc := "(I)I" } : Jvm.MethodName) "FileBuilder"), (Jvm.Cond.methodLinkNest "FileBuilder$Graph" (52 : Nat) ({ cls := "FileBuilder", name := "has", desc := "(II)Z" } : Jvm.MethodName) "FileBuilder"), (Jvm.Cond.methodLinkNest "FileBuilder" (165 : Nat) ({ cls := "FileBuilder$Graph", name := "hasCycle", desc := "(I)Z" } : Jvm.MethodName) "FileBuilder"), (Jvm.Cond.methodLinkNest "FileBuilder" (173 : Nat) ({ cls := "FileBuilder$Graph", name := "waitedForBy", desc := "(I)I" } : Jvm.MethodName) "FileBuilder"), (Jvm.Cond.methodLinkNest "FileBuilder" (181 : Nat) ({ cls := "FileBuilder$Build", name := "renew", desc := "(II)V" } : Jvm.MethodName) "FileBuilder"), (Jvm.Cond.methodLinkNest "FileBuilder" (252 : Nat) ({ cls := "FileBuilder$Graph", name := "nextToLookAt", desc := "(II)I" } : Jvm.MethodName) "FileBuilder"), (Jvm.Cond.methodLinkNest "FileBuilder" (273 : Nat) ({ cls := "FileBuilder$Graph", name := "hasFlag", desc := "(II)Z" } : Jvm.MethodName) "FileBuilder"), (Jvm.Cond.methodLinkNest "FileBuilder" (292 : Nat) ({ cls := "FileBuilder$Disk", name := "greatestTime", desc := "(I)I" } : Jvm.MethodName) "FileBuilder"), (Jvm.Cond.methodLinkNest "FileBuilder$Disk" (25 : Nat) ({ cls := "FileBuilder", name := "has", desc := "(II)Z" } : Jvm.MethodName) "FileBuilder"), (Jvm.Cond.methodLinkNest "FileBuilder" (289 : Nat) ({ cls := "FileBuilder$RecordLog", name := "reaches", desc := "(II)Z" } : Jvm.MethodName) "FileBuilder"), (Jvm.Cond.methodLinkNest "FileBuilder" (325 : Nat) ({ cls := "FileBuilder$Graph", name := "needs", desc := "(I)I" } : Jvm.MethodName) "FileBuilder"), (Jvm.Cond.methodLinkNest "FileBuilder" (313 : Nat) ({ cls := "FileBuilder$Readings", name := "keep", desc := "(II)V" } : Jvm.MethodName) "FileBuilder"), (Jvm.Cond.methodLinkNest "FileBuilder" (316 : Nat) ({ cls := "FileBuilder$RecordLog", name := "append", desc := "(III)V" } : Jvm.MethodName) "FileBuilder"), (Jvm.Cond.methodLinkNest "FileBuilder" (219 : Nat) ({ cls := "FileBuilder$RecordLog", name := "hasRecord", desc := "(I)Z" } : Jvm.MethodName) "FileBuilder"), (Jvm.Cond.methodLinkNest "FileBuilder" (234 : Nat) ({ cls := "FileBuilder$RecordLog", name := "readAgain", desc := "(I)V" } : Jvm.MethodName) "FileBuilder"), (Jvm.Cond.methodLinkNest "FileBuilder$RecordLog" (50 : Nat) ({ cls := "FileBuilder", name := "isFile", desc := "(I)Z" } : Jvm.MethodName) "FileBuilder"), (Jvm.Cond.methodLinkNest "FileBuilder" (237 : Nat) ({ cls := "FileBuilder$Readings", name := "forget", desc := "()V" } : Jvm.MethodName) "FileBuilder"), (Jvm.Cond.methodLinkNest "FileBuilder" (240 : Nat) ({ cls := "FileBuilder$Build", name := "forget", desc := "()V" } : Jvm.MethodName) "FileBuilder")]
theorem xNT_ok : ∀ w ∈ xNT, xIsN w = true := by
  have h : xNT.all xIsN = true := by decide +kernel
  exact List.all_eq_true.mp h
theorem xNT_in : ∀ w ∈ xNT, w ∈ tables_1 := by
  have h : xNT = [27, 32, 34, 37, 50, 57, 60, 62, 64, 66, 82, 87, 89, 98, 106, 108, 110, 112, 124, 129, 131, 133, 135, 169, 177, 185, 209, 221, 225, 334, 345, 349, 358, 365, 369, 371, 412, 417, 446, 460, 472, 473, 497, 503, 512, 517, 526, 530, 538, 570, 575, 579, 618, 635, 646, 651, 655].filterMap (fun i => tables_1[i]?) := by decide +kernel
  intro w hw
  rw [h] at hw
  obtain ⟨i, -, hi⟩ := List.mem_filterMap.mp hw
  exact List.mem_of_getElem? hi
def xSR : List (String × Nat × String) := [("FileBuilder", 67, "no such command, flags or pool"), ("FileBuilder", 82, "twelve edges, or a build is under way"), ("FileBuilder", 95, "no such edge, kind or file"), ("FileBuilder", 101, "no such link now"), ("FileBuilder", 110, "no such edge or file, or a phony"), ("FileBuilder", 122, "a build is under way, or the file is made, or it is so"), ("FileBuilder", 128, "no such edge or command"), ("FileBuilder", 245, "a build is under way"), ("FileBuilder", 133, "no such pool or depth"), ("FileBuilder", 138, "no such file, or a phony makes it"), ("FileBuilder", 144, "no such file"), ("FileBuilder", 151, "the file is not there"), ("FileBuilder", 159, "no such targets, jobs or fail"), ("FileBuilder", 170, "a cycle"), ("FileBuilder", 179, "a file is missing"), ("FileBuilder", 199, "the edge does not run"), ("FileBuilder", 247, "no such edge"), ("FileBuilder", 224, "no such what"), ("FileBuilder", 232, "fewer bytes than none")]
def xMA (U : State) : Prop := ∃ (comp c : ClassId) (k : Class), U.vm.findClass "[I" = some comp ∧ U.vm.findClass "[[I" = some c ∧ U.vm.classes[c]? = some k ∧ k.kind = .array comp (.array .int)
theorem xMA.moved {u U : State} (hvm : u.vm.Alike U.vm) (h : xMA u) : xMA U := by
  obtain ⟨comp, c, k, h1, h2, h3, h4⟩ := h
  obtain ⟨k', hk', he⟩ := hvm.2.2 _ _ h3
  exact ⟨comp, c, k', by rw [hvm.findClass]; exact h1, by rw [hvm.findClass]; exact h2, hk', by rw [he]; exact h4⟩
def xAmb (U : State) : Prop := (∀ w ∈ xNT, va_Nw w U) ∧ (∀ q ∈ xSR, ∃ a, vk_R q.1 q.2.1 q.2.2 a U) ∧ va_Nc "java/util/NoSuchElementException" "java/lang/IllegalArgumentException" U ∧ va_Nc "java/util/NoSuchElementException" "java/lang/IllegalStateException" U ∧ va_Nc "java/util/NoSuchElementException" "java/lang/UnsupportedOperationException" U ∧ xMA U
theorem xAmb.warm {s U : State} (hW : s.WarmedH U.vm) (h : xAmb s) : xAmb U := by
  obtain ⟨h1, h2, h3, h4, h5, h6⟩ := h
  refine ⟨fun w hw => ?_, fun q hq => ?_, va_Nc.moved hW.alike h3, va_Nc.moved hW.alike h4, va_Nc.moved hW.alike h5, xMA.moved hW.alike h6⟩
  · have g1 := h1 w hw
    have g2 := xNT_ok w hw
    cases w <;> first | exact va_Nw.warmF hW g1 | exact va_Nw.warmM hW g1 | exact absurd g2 Bool.false_ne_true
  · obtain ⟨a, ha⟩ := h2 q hq
    exact ⟨a, vk_R.warm hW ha⟩
/-- a static field of Throwable that holds a reference or null -/
def xSt (n d : String) (U : State) (H : Heap) : Prop := ∃ (c : ClassId) (k : Class) (i : Nat) (f : Field) (a : Nat) (cell : Cell) (v : Value), U.vm.findClass Bundle.tN = some c ∧ U.fieldFound? Bundle.tN n d = some (c, k, i, f) ∧ f.isStatic = true ∧ k.statics = some a ∧ H[a]? = some cell ∧ cell.vm.isStatics = true ∧ cell.cls = c ∧ f.slot < cell.slots.size ∧ k.staticTypes[f.slot]? = some f.type ∧ cell.slots[f.slot]? = some v ∧ v.isRef = true
theorem xSt.next {n d : String} {s U : State} {A : Nat → Prop} {H H1 : Heap} (h : xSt n d s H) (hq : ∀ q, q < H.size → ¬ A q → H1[q]? = H[q]?) (hAs : ∀ q, A q → ∀ cell, H[q]? = some cell → cell.vm.isStatics = false) (hvm : s.vm.Alike U.vm) : xSt n d U H1 := by
  obtain ⟨c, k, i, f, a, cell, v, h1, h2, h3, h4, h5, h6, h7, h8, h9, h10, h11⟩ := h
  obtain ⟨k', hi', hek⟩ := State.fieldFound?_setVm hvm h2
  have hnA : ¬ A a := fun hA => by
    have := hAs a hA cell h5
    rw [h6] at this
    cases this
  exact ⟨c, k', i, f, a, cell, v, by rw [hvm.findClass]; exact h1, hi', h3, by rw [hek]; exact h4, by rw [hq a (Array.getElem?_eq_some_iff.mp h5).1 hnA]; exact h5, h6, h7, h8, by rw [hek]; exact h9, h10, h11⟩
theorem xSt.lays {n d : String} {s : State} {args : Array Value} (h : xSt n d s s.heap) : (Cond.laysStatic Bundle.tN n d).before args s = true := by
  obtain ⟨c, k, i, f, a, cell, v, h1, h2, h3, h4, h5, h6, h7, h8, h9, -⟩ := h
  show (Cond.laysStatic Bundle.tN n d).holds args s none s [] = true
  exact Cond.laysStatic_of h1 h2 h3 h4 h5 h6 h7 h8 h9
theorem xSt.ref {n d : String} {s : State} {args : Array Value} (h : xSt n d s s.heap) : (Cond.isRef (.static Bundle.tN n d)).before args s = true := by
  obtain ⟨c, k, i, f, a, cell, v, h1, h2, h3, h4, h5, h6, h7, h8, h9, h10, h11⟩ := h
  have he : (Term.static Bundle.tN n d).eval args s none [] s = some v := by
    simp [Term.eval, State.fieldNamed?, h2, h3, h4, h5, h6, h10]
  simp only [Cond.before, Cond.holds, Cond.value, he]
  cases v <;> simp_all [Value.isRef]
theorem xSt.of {n d : String} {s : State} {args : Array Value} (hl : (Cond.laysStatic Bundle.tN n d).before args s = true) (hr : (Cond.isRef (.static Bundle.tN n d)).before args s = true) : xSt n d s s.heap := by
  obtain ⟨c, k, i, f, a, cell, h1, h2, h3, h4, h5, h6, h7, h8, h9⟩ := Cond.laysStatic_spec hl
  obtain ⟨u, hu⟩ := Cond.staticRefV h2 h3 h4 h5 h6 hr
  exact ⟨c, k, i, f, a, cell, u.v, h1, h2, h3, h4, h5, h6, h7, h8, h9, hu, u.2⟩
def xTh (U : State) (H : Heap) : Prop := xSt "UNASSIGNED_STACK" Bundle.steD U H ∧ xSt "SUPPRESSED_SENTINEL" Bundle.listD U H
theorem xTh.next {s U : State} {A : Nat → Prop} {H H1 : Heap} (h : xTh s H) (hq : ∀ q, q < H.size → ¬ A q → H1[q]? = H[q]?) (hAs : ∀ q, A q → ∀ cell, H[q]? = some cell → cell.vm.isStatics = false) (hvm : s.vm.Alike U.vm) : xTh U H1 := ⟨h.1.next hq hAs hvm, h.2.next hq hAs hvm⟩
/-- the words of a throw: good ones, and four that speak of the heap -/
def xHW : List Cond := [.isRef (.static Bundle.tN "UNASSIGNED_STACK" Bundle.steD), .isRef (.static Bundle.tN "SUPPRESSED_SENTINEL" Bundle.listD), .laysStatic Bundle.tN "UNASSIGNED_STACK" Bundle.steD, .laysStatic Bundle.tN "SUPPRESSED_SENTINEL" Bundle.listD]
theorem xTh.words {s : State} {args : Array Value} (h : xTh s s.heap) : ∀ w ∈ xHW, w.before args s = true := by
  intro w hw
  simp only [xHW, List.mem_cons, List.not_mem_nil, or_false] at hw
  rcases hw with rfl | rfl | rfl | rfl
  · exact h.1.ref
  · exact h.2.ref
  · exact h.1.lays
  · exact h.2.lays
end
section
/-! the forms of my contracts: worlds ahead and behind, and what surrounds every call (xAmb, of the part before) -/
theorem xAs {s : State} {D : va_G} {cl : List vw_C} {ws : va_W} {A : Nat → Prop} (hAe : va_A ws s.heap.size = A) (hP : va_P D cl ws s.heap) : ∀ q, A q → ∀ cell, s.heap[q]? = some cell → cell.vm.isStatics = false := by
  intro q h cell hc
  rw [← hAe] at h
  rcases h with ⟨k, e, hk⟩ | h
  · have h1 := hP k _ hk
    cases e with
    | inl x =>
      have h2 : s.heap[q]? = some (vp_cell x.1 x.2) := h1
      cases hc.symm.trans h2
      obtain ⟨cA, n, f | f | f | f | f⟩ := x <;> rfl
    | inr o =>
      obtain ⟨r, -, cell', g1, -, g3, -⟩ := h1
      cases hc.symm.trans g1
      rw [g3]
      rfl
  · have : s.heap[q]? = none := Array.getElem?_eq_none h
    rw [this] at hc
    cases hc
def xPc (D : va_G) (cl : List vw_C) (av : List Value) (sz : Nat) (tys : List (ClassId × FieldType)) (ws : va_W) : Array Value → State → Prop :=
  va_Pc av (fun U => U.heap.size = sz ∧ va_P D cl ws U.heap ∧ va_K D cl tys U ∧ va_D (fun _ => True) ws ∧ xAmb U ∧ xTh U U.heap)
theorem xP_blind {D : va_G} {cl : List vw_C} {av : List Value} {sz : Nat} {tys : List (ClassId × FieldType)} {ws : va_W} : FrameBlind (xPc D cl av sz tys ws) := fun a U g mk q => by
  obtain ⟨q0, q1, qP, qK, qD, qA, qT⟩ := q
  exact ⟨q0, q1, qP, va_K.moved (u := U) (U := U.calling g mk a) (Vm.Alike.refl U.vm) qK, qD, xAmb.warm (s := U) (U := U.calling g mk a) (State.WarmedH.refl U) qA, xTh.next (s := U) (U := U.calling g mk a) (A := fun _ => False) (H1 := U.heap) qT (fun _ _ _ => rfl) (fun _ h => h.elim) (Vm.Alike.refl U.vm)⟩
theorem xP_S {s : State} {H : Heap} {A : Nat → Prop} {locs : List Loc} {D : va_G} {cl : List vw_C} {av : List Value} {tys : List (ClassId × FieldType)} {ws : va_W} (hP : va_P D cl ws H) (hK : va_K D cl tys s) (hD : va_D A ws) (hAm : xAmb s) (hTh : xTh s s.heap) (hAs : ∀ q, A q → ∀ cell, s.heap[q]? = some cell → cell.vm.isStatics = false) (hS : va_S A s.heap H locs) : PreS s H (xPc D cl av H.size tys ws) av :=
  ⟨xP_blind, fun U hU hW => ⟨rfl, by rw [hU], by rw [hU]; exact hP, va_K.moved hW.alike hK, hD.weaken (fun _ _ _ _ => trivial), xAmb.warm hW hAm, by rw [hU]; exact xTh.next hTh hS.2.1 hAs hW.alike⟩⟩
theorem xP_V {s : State} {H : Heap} {A : Nat → Prop} {locs : List Loc} {D : va_G} {cl : List vw_C} {C : String} {b : Addr} {As : List Value} {tys : List (ClassId × FieldType)} {ws : va_W} (hr : ∃ cellB : Cell, H[b]? = some cellB ∧ cellB.vm.isStatics = false ∧ s.vm.findClass C = some cellB.cls) (hP : va_P D cl ws H) (hK : va_K D cl tys s) (hD : va_D A ws) (hAm : xAmb s) (hTh : xTh s s.heap) (hAs : ∀ q, A q → ∀ cell, s.heap[q]? = some cell → cell.vm.isStatics = false) (hS : va_S A s.heap H locs) : PreV s H C b (xPc D cl (.ref b :: As) H.size tys ws) As :=
  ⟨xP_blind, hr, fun U hU hW => ⟨rfl, by rw [hU], by rw [hU]; exact hP, va_K.moved hW.alike hK, hD.weaken (fun _ _ _ _ => trivial), xAmb.warm hW hAm, by rw [hU]; exact xTh.next hTh hS.2.1 hAs hW.alike⟩⟩
abbrev xBh (D : va_G) (cl : List vw_C) (A : Nat → Prop) {S : Type} (w1 : S → va_W) (t1 : S → List (ClassId × FieldType)) : S → State → Prop := fun u t => va_P D cl (w1 u) t.heap ∧ va_K D cl (t1 u) t ∧ va_D A (w1 u)
def xMi (l : Launch) (y : MethodName) (wy : List Cond) (rm : Room) (D : va_G) (cl : List vw_C) (av : List Value) (sz : Nat) (tys : List (ClassId × FieldType)) (ws : va_W) {S : Type} (post : Int32 → S → Prop) (w1 : S → va_W) (t1 : S → List (ClassId × FieldType)) : Prop :=
  Met l y wy rm (xPc D cl av sz tys ws) (va_Qi post (xBh D cl (va_A ws sz) w1 t1) (va_A ws sz)) rm.cells rm.slots (va_A ws sz)
def xMv (l : Launch) (y : MethodName) (wy : List Cond) (rm : Room) (D : va_G) (cl : List vw_C) (av : List Value) (sz : Nat) (tys : List (ClassId × FieldType)) (ws : va_W) {S : Type} (post : S → Prop) (w1 : S → va_W) (t1 : S → List (ClassId × FieldType)) : Prop :=
  Met l y wy rm (xPc D cl av sz tys ws) (va_Qv post (xBh D cl (va_A ws sz) w1 t1) (va_A ws sz)) rm.cells rm.slots (va_A ws sz)
def xMt (l : Launch) (y : MethodName) (wy : List Cond) (rm : Room) (D : va_G) (cl : List vw_C) (av : List Value) (sz : Nat) (tys : List (ClassId × FieldType)) (ws : va_W) (X : String) : Prop :=
  xt_Met l y wy rm (xPc D cl av sz tys ws) X rm.cells rm.slots (va_A ws sz)
/-- what a walk has of its own method -/
abbrev xB (p : Program) (s : State) (m : MethodId) (args : Array Value) (meth : Method) (c : Code) (cc : ByteArray) (nL : Nat) (Ts : List Cond) (own nm : String) (ret : Option FieldType) : Prop :=
  CallFix p m c cc nL s args Ts own ∧ meth.sig.returnType = ret ∧ meth.locks = false ∧ meth.name = nm ∧ c.exceptionTable.isEmpty = true
theorem xB_of {l : Launch} {y : MethodName} {ws ws' : List Cond} {rm : Room} {cc : ByteArray} {maxL : Nat} {ret : Option FieldType} (hw : ws = Cond.code y cc maxL ret :: ws')
    {p : Program} {e : Env} {s : State} {m : MethodId} {args : Array Value} {below : List Frame} {meth : Method} {c : Code} {s₁ : State} (B : BodyLoose p l y (headSpec ws rm) cc maxL ret e s m args below meth c s₁) (hml : c.maxLocals = maxL) :
    xB p s m args meth c cc maxL ws y.cls y.name ret := by
  have hts := atoms_spec (ws := ws) B.pre
  have hcd : (Cond.code y cc maxL ret).before args s = true := hts _ (by rw [hw]; exact List.mem_cons_self)
  exact ⟨⟨B.exec, B.bytes, hml, findClass_of_methodNamed B.named, hts⟩, B.returns, B.notSynchronized, (name_of_methodNamed B.named B.method).1, B.noHandlers hcd⟩
theorem xMi_of {l : Launch} {y : MethodName} {wy ws' : List Cond} {rm : Room} {cc : ByteArray} {maxL : Nat} {ret : Option FieldType} {D : va_G} {cl : List vw_C} {av : List Value} {sz : Nat} {tys : List (ClassId × FieldType)} {ws : va_W} {S : Type} {post : Int32 → S → Prop} {w1 : S → va_W} {t1 : S → List (ClassId × FieldType)}
    (hy : plainName y.cls = true) (hw : wy = Cond.code y cc maxL ret :: ws') (hav : (lg_sl av).length ≤ maxL)
    (body : ∀ (p : Program) (e : Env) (s : State) (m : MethodId) (args : Array Value) (below : List Frame) (meth : Method) (c : Code) (ls : Array Slot) (A : Nat → Prop), xB p s m args meth c cc maxL wy y.cls y.name ret → va_A ws s.heap.size = A → (∀ q, s.heap.size ≤ q → A q) → s.heap.size = sz → va_P D cl ws s.heap → va_K D cl tys s → va_D A ws → va_S A s.heap s.heap [] → xAmb s → xTh s s.heap → (∀ q, A q → ∀ cell, s.heap[q]? = some cell → cell.vm.isStatics = false) → lv_has ls maxL (lv_args 0 av) →
      W p l e rm s m args below meth c s.heap [] 0 0 (MQ below (va_Qi post (xBh D cl A w1 t1) A) args s rm.cells rm.slots A) (F0 m 0 ls [])) : xMi l y wy rm D cl av sz tys ws post w1 t1 := by
  refine Met.ofW (cc := cc) (maxL := maxL) (ret := ret) hy hw ?_
  intro p e s m args below meth c s₁ B hml hv
  obtain ⟨rfl, hsz, hP, hK, hD0, hAm, hTh⟩ := hv
  subst hsz
  have hl := lv_entry av (n := maxL) hav
  rw [lg_entry_eq]
  exact body p e s m _ below meth c _ _ (xB_of hw B hml) rfl (fun q h => Or.inr h) rfl hP hK hD0.self va_S.rf hAm hTh (xAs rfl hP) hl
theorem xMv_of {l : Launch} {y : MethodName} {wy ws' : List Cond} {rm : Room} {cc : ByteArray} {maxL : Nat} {ret : Option FieldType} {D : va_G} {cl : List vw_C} {av : List Value} {sz : Nat} {tys : List (ClassId × FieldType)} {ws : va_W} {S : Type} {post : S → Prop} {w1 : S → va_W} {t1 : S → List (ClassId × FieldType)}
    (hy : plainName y.cls = true) (hw : wy = Cond.code y cc maxL ret :: ws') (hav : (lg_sl av).length ≤ maxL)
    (body : ∀ (p : Program) (e : Env) (s : State) (m : MethodId) (args : Array Value) (below : List Frame) (meth : Method) (c : Code) (ls : Array Slot) (A : Nat → Prop), xB p s m args meth c cc maxL wy y.cls y.name ret → va_A ws s.heap.size = A → (∀ q, s.heap.size ≤ q → A q) → s.heap.size = sz → va_P D cl ws s.heap → va_K D cl tys s → va_D A ws → va_S A s.heap s.heap [] → xAmb s → xTh s s.heap → (∀ q, A q → ∀ cell, s.heap[q]? = some cell → cell.vm.isStatics = false) → lv_has ls maxL (lv_args 0 av) →
      W p l e rm s m args below meth c s.heap [] 0 0 (MQ below (va_Qv post (xBh D cl A w1 t1) A) args s rm.cells rm.slots A) (F0 m 0 ls [])) : xMv l y wy rm D cl av sz tys ws post w1 t1 := by
  refine Met.ofW (cc := cc) (maxL := maxL) (ret := ret) hy hw ?_
  intro p e s m args below meth c s₁ B hml hv
  obtain ⟨rfl, hsz, hP, hK, hD0, hAm, hTh⟩ := hv
  subst hsz
  have hl := lv_entry av (n := maxL) hav
  rw [lg_entry_eq]
  exact body p e s m _ below meth c _ _ (xB_of hw B hml) rfl (fun q h => Or.inr h) rfl hP hK hD0.self va_S.rf hAm hTh (xAs rfl hP) hl
theorem xMt_of {l : Launch} {y : MethodName} {wy ws' : List Cond} {rm : Room} {cc : ByteArray} {maxL : Nat} {ret : Option FieldType} {D : va_G} {cl : List vw_C} {av : List Value} {sz : Nat} {tys : List (ClassId × FieldType)} {ws : va_W} {X : String}
    (hy : plainName y.cls = true) (hw : wy = Cond.code y cc maxL ret :: ws') (hav : (lg_sl av).length ≤ maxL)
    (body : ∀ (p : Program) (e : Env) (s : State) (m : MethodId) (args : Array Value) (below : List Frame) (meth : Method) (c : Code) (ls : Array Slot) (A : Nat → Prop), xB p s m args meth c cc maxL wy y.cls y.name ret → va_A ws s.heap.size = A → (∀ q, s.heap.size ≤ q → A q) → s.heap.size = sz → va_P D cl ws s.heap → va_K D cl tys s → va_D A ws → va_S A s.heap s.heap [] → xAmb s → xTh s s.heap → (∀ q, A q → ∀ cell, s.heap[q]? = some cell → cell.vm.isStatics = false) → lv_has ls maxL (lv_args 0 av) →
      W p l e rm s m args below meth c s.heap [] 0 0 (xt_Q below X s rm.cells rm.slots A) (F0 m 0 ls [])) : xMt l y wy rm D cl av sz tys ws X := by
  refine xt_ofW (cc := cc) (maxL := maxL) (ret := ret) hy hw ?_
  intro p e s m args below meth c s₁ B hml hv
  obtain ⟨rfl, hsz, hP, hK, hD0, hAm, hTh⟩ := hv
  subst hsz
  have hl := lv_entry av (n := maxL) hav
  rw [lg_entry_eq]
  exact body p e s m _ below meth c _ _ (xB_of hw B hml) rfl (fun q h => Or.inr h) rfl hP hK hD0.self va_S.rf hAm hTh (xAs rfl hP) hl
section XR
variable {p : Program} {l : Launch} {e : Env} {R : Room} {s : State} {m : MethodId} {args : Array Value} {below : List Frame} {meth : Method} {c : Code} {H : Heap} {locs : List Loc} {cells slots : Nat} {Q : State → Prop}
variable {cc : ByteArray} {pc nL : Nat} {ls : Array Slot} {rest st0 : List Value} {A : Nat → Prop} {D : va_G} {cl : List vw_C} {Ts : List Cond} {own nm : String} {ret : Option FieldType} {mc ms : Nat}
theorem xri {S : Type} {post : Int32 → S → Prop} {w1 : S → va_W} {t1 : S → List (ClassId × FieldType)} {v : Int32} (u : S) (B : xB p s m args meth c cc nL Ts own nm (some .int)) (hd : decode cc pc = .ok (.ireturn, 1)) (hp : post v u) (hP : va_P D cl (w1 u) H) (hK : va_K D cl (t1 u) s) (hD : va_D A (w1 u)) (hS : va_S A s.heap H locs) (hc : cells ≤ mc) (hs : slots ≤ ms) :
    W p l e R s m args below meth c H locs cells slots (MQ below (va_Qi post (xBh D cl A w1 t1) A) args s mc ms A) (F0 m pc ls [.int v]) := by
  refine W.widen (k := mc) (n := ms) hc hs ?_
  exact W.iret B.1.1 B.1.2.1 B.2.1 (fun t ht hW => ⟨⟨v, u, rfl, hp, by rw [ht]; exact hP, va_K.moved hW.alike hK, hD⟩, hS.F ht⟩) hS.2.2 hd B.2.2.1
theorem xrz {S : Type} {post : Int32 → S → Prop} {w1 : S → va_W} {t1 : S → List (ClassId × FieldType)} {v : Int32} (u : S) (B : xB p s m args meth c cc nL Ts own nm (some .boolean)) (hd : decode cc pc = .ok (.ireturn, 1)) (hn : narrow .boolean (.int v) = .int v) (hp : post v u) (hP : va_P D cl (w1 u) H) (hK : va_K D cl (t1 u) s) (hD : va_D A (w1 u)) (hS : va_S A s.heap H locs) (hc : cells ≤ mc) (hs : slots ≤ ms) :
    W p l e R s m args below meth c H locs cells slots (MQ below (va_Qi post (xBh D cl A w1 t1) A) args s mc ms A) (F0 m pc ls [.int v]) := by
  refine W.widen (k := mc) (n := ms) hc hs ?_
  exact W.zret B.1.1 B.1.2.1 B.2.1 hn (fun t ht hW => ⟨⟨v, u, rfl, hp, by rw [ht]; exact hP, va_K.moved hW.alike hK, hD⟩, hS.F ht⟩) hS.2.2 hd B.2.2.1
theorem xrv {S : Type} {post : S → Prop} {w1 : S → va_W} {t1 : S → List (ClassId × FieldType)} (u : S) (B : xB p s m args meth c cc nL Ts own nm none) (hd : decode cc pc = .ok (.return_, 1)) (hp : post u) (hP : va_P D cl (w1 u) H) (hK : va_K D cl (t1 u) s) (hD : va_D A (w1 u)) (hS : va_S A s.heap H locs) (hc : cells ≤ mc) (hs : slots ≤ ms) :
    W p l e R s m args below meth c H locs cells slots (MQ below (va_Qv post (xBh D cl A w1 t1) A) args s mc ms A) (F0 m pc ls []) := by
  refine W.widen (k := mc) (n := ms) hc hs ?_
  exact W.vret B.1.1 B.1.2.1 B.2.1 (fun t ht hW => ⟨⟨u, rfl, hp, by rw [ht]; exact hP, va_K.moved hW.alike hK, hD⟩, hS.F ht⟩) hS.2.2 hd B.2.2.1
theorem xgi {S1 : Type} {post1 : Int32 → S1 → Prop} {w1 : S1 → va_W} {t1 : S1 → List (ClassId × FieldType)} {ws wsC wr : va_W} {tys : List (ClassId × FieldType)} {mc1 ms1 : Nat} {a : Array Value} {H0 : Heap}
    (hr : va_Run p l e R s m args below meth c H locs cells slots mc1 ms1 (F0 m pc ls st0) rest (va_Qi post1 (xBh D cl (va_A wsC H.size) w1 t1) (va_A wsC H.size) a) (va_A wsC H.size))
    (hP : va_P D cl ws H) (hD : va_D A ws) (hK : va_K D cl tys s) (hS : va_S A H0 H locs) (hA : ∀ q, H0.size ≤ q → A q)
    (isC isR : List Nat) (hC : isC.map (fun i => ws[i]?) = wsC.map some) (hR : isR.map (fun i => ws[i]?) = wr.map some) (hn : va_nd isR = true) (hdis : ∀ i ∈ isR, i ∉ isC)
    (kk : ∀ (r : Int32) (u : S1) (H1 : Heap) (locs1 : List Loc), post1 r u → va_P D cl (wr ++ w1 u) H1 → va_D A (wr ++ w1 u) → va_K D cl (tys ++ t1 u) s → va_S A H0 H1 locs1 → W p l e R s m args below meth c H1 locs1 (cells + mc1) (slots + ms1) Q (F0 m (pc + 3) ls (.int r :: rest))) :
    W p l e R s m args below meth c H locs cells slots Q (F0 m pc ls st0) := by
  have hFc := va_free hD hS hA isC hC
  refine va_calli hr hS (fun q _ h => hFc q h) hFc (fun r u t H1 locs1 ht hvm hp hB hz1 hk1 hS1 => ?_)
  obtain ⟨hP1, hK1, hD1⟩ := hB
  rw [ht] at hP1
  obtain ⟨hP2, hD2⟩ := va_join hP hD isC isR hC hR hn hdis hk1 hFc hP1 hD1
  exact kk r u H1 locs1 hp hP2 hD2 (hK.app (va_K.moved hvm.symm hK1)) hS1
theorem xgv {S1 : Type} {post1 : S1 → Prop} {w1 : S1 → va_W} {t1 : S1 → List (ClassId × FieldType)} {ws wsC wr : va_W} {tys : List (ClassId × FieldType)} {mc1 ms1 : Nat} {a : Array Value} {H0 : Heap}
    (hr : va_Run p l e R s m args below meth c H locs cells slots mc1 ms1 (F0 m pc ls st0) rest (va_Qv post1 (xBh D cl (va_A wsC H.size) w1 t1) (va_A wsC H.size) a) (va_A wsC H.size))
    (hP : va_P D cl ws H) (hD : va_D A ws) (hK : va_K D cl tys s) (hS : va_S A H0 H locs) (hA : ∀ q, H0.size ≤ q → A q)
    (isC isR : List Nat) (hC : isC.map (fun i => ws[i]?) = wsC.map some) (hR : isR.map (fun i => ws[i]?) = wr.map some) (hn : va_nd isR = true) (hdis : ∀ i ∈ isR, i ∉ isC)
    (kk : ∀ (u : S1) (H1 : Heap) (locs1 : List Loc), post1 u → va_P D cl (wr ++ w1 u) H1 → va_D A (wr ++ w1 u) → va_K D cl (tys ++ t1 u) s → va_S A H0 H1 locs1 → W p l e R s m args below meth c H1 locs1 (cells + mc1) (slots + ms1) Q (F0 m (pc + 3) ls rest)) :
    W p l e R s m args below meth c H locs cells slots Q (F0 m pc ls st0) := by
  have hFc := va_free hD hS hA isC hC
  refine va_callv hr hS (fun q _ h => hFc q h) hFc (fun u t H1 locs1 ht hvm hp hB hz1 hk1 hS1 => ?_)
  obtain ⟨hP1, hK1, hD1⟩ := hB
  rw [ht] at hP1
  obtain ⟨hP2, hD2⟩ := va_join hP hD isC isR hC hR hn hdis hk1 hFc hP1 hD1
  exact kk u H1 locs1 hp hP2 hD2 (hK.app (va_K.moved hvm.symm hK1)) hS1
end XR
end
