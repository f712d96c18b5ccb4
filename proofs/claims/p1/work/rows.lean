section
-- ===== PART A: goes FIRST, ahead of the names: the tables' words, and 'selects' of the private methods out of them =====
/-- a private method of a class that the tables say can be made, by its rows of tables_1 -/
def lw_okq (q : MethodName × Nat) : Prop := (q.1.cls ≠ "java/lang/invoke/MethodHandle" ∧ q.1.cls ≠ "java/lang/invoke/VarHandle") ∧ Cond.instantiable q.1.cls q.2 ∈ tables_1 ∧ Cond.privateMethod q.1 ∈ tables_1 ∧ Cond.instanceMethod q.1 ∈ tables_1
theorem lw_p0 : lw_okq (⟨"FileBuilder$Build", "isUnderWay", "()Z"⟩, 4) := ⟨⟨by decide +kernel, by decide +kernel⟩, List.mem_of_getElem? (i := 123) (by decide +kernel), List.mem_of_getElem? (i := 170) (by decide +kernel), List.mem_of_getElem? (i := 171) (by decide +kernel)⟩
theorem lw_p1 : lw_okq (⟨"FileBuilder", "nextToBegin", "()I"⟩, 6) := ⟨⟨by decide +kernel, by decide +kernel⟩, List.mem_of_getElem? (i := 18) (by decide +kernel), List.mem_of_getElem? (i := 174) (by decide +kernel), List.mem_of_getElem? (i := 175) (by decide +kernel)⟩
theorem lw_p2 : lw_okq (⟨"FileBuilder$Build", "countAt", "(I)I"⟩, 4) := ⟨⟨by decide +kernel, by decide +kernel⟩, List.mem_of_getElem? (i := 123) (by decide +kernel), List.mem_of_getElem? (i := 178) (by decide +kernel), List.mem_of_getElem? (i := 179) (by decide +kernel)⟩
theorem lw_p3 : lw_okq (⟨"FileBuilder", "hasRoomInPool", "(I)Z"⟩, 6) := ⟨⟨by decide +kernel, by decide +kernel⟩, List.mem_of_getElem? (i := 18) (by decide +kernel), List.mem_of_getElem? (i := 182) (by decide +kernel), List.mem_of_getElem? (i := 183) (by decide +kernel)⟩
theorem lw_p4 : lw_okq (⟨"FileBuilder$Graph", "behind", "(IZ)I"⟩, 6) := ⟨⟨by decide +kernel, by decide +kernel⟩, List.mem_of_getElem? (i := 49) (by decide +kernel), List.mem_of_getElem? (i := 186) (by decide +kernel), List.mem_of_getElem? (i := 187) (by decide +kernel)⟩
theorem lw_p5 : lw_okq (⟨"FileBuilder$Graph", "waits", "(I)I"⟩, 6) := ⟨⟨by decide +kernel, by decide +kernel⟩, List.mem_of_getElem? (i := 49) (by decide +kernel), List.mem_of_getElem? (i := 190) (by decide +kernel), List.mem_of_getElem? (i := 191) (by decide +kernel)⟩
theorem lw_p6 : lw_okq (⟨"FileBuilder$Graph", "needs", "(I)I"⟩, 6) := ⟨⟨by decide +kernel, by decide +kernel⟩, List.mem_of_getElem? (i := 49) (by decide +kernel), List.mem_of_getElem? (i := 194) (by decide +kernel), List.mem_of_getElem? (i := 195) (by decide +kernel)⟩
theorem lw_p7 : lw_okq (⟨"FileBuilder$Graph", "isPhony", "(I)Z"⟩, 6) := ⟨⟨by decide +kernel, by decide +kernel⟩, List.mem_of_getElem? (i := 49) (by decide +kernel), List.mem_of_getElem? (i := 198) (by decide +kernel), List.mem_of_getElem? (i := 199) (by decide +kernel)⟩
theorem lw_p8 : lw_okq (⟨"FileBuilder$Graph", "hasFlag", "(II)Z"⟩, 6) := ⟨⟨by decide +kernel, by decide +kernel⟩, List.mem_of_getElem? (i := 49) (by decide +kernel), List.mem_of_getElem? (i := 202) (by decide +kernel), List.mem_of_getElem? (i := 203) (by decide +kernel)⟩
theorem lw_p9 : lw_okq (⟨"FileBuilder", "isMadeByPending", "(I)Z"⟩, 6) := ⟨⟨by decide +kernel, by decide +kernel⟩, List.mem_of_getElem? (i := 18) (by decide +kernel), List.mem_of_getElem? (i := 206) (by decide +kernel), List.mem_of_getElem? (i := 207) (by decide +kernel)⟩
theorem lw_p10 : lw_okq (⟨"FileBuilder$Build", "isPending", "(I)Z"⟩, 4) := ⟨⟨by decide +kernel, by decide +kernel⟩, List.mem_of_getElem? (i := 123) (by decide +kernel), List.mem_of_getElem? (i := 210) (by decide +kernel), List.mem_of_getElem? (i := 211) (by decide +kernel)⟩
theorem lw_p11 : lw_okq (⟨"FileBuilder$RecordLog", "hasByte", "(I)Z"⟩, 4) := ⟨⟨by decide +kernel, by decide +kernel⟩, List.mem_of_getElem? (i := 97) (by decide +kernel), List.mem_of_getElem? (i := 222) (by decide +kernel), List.mem_of_getElem? (i := 223) (by decide +kernel)⟩
theorem lw_p12 : lw_okq (⟨"java/lang/Throwable", "fillInStackTrace", "(I)Ljava/lang/Throwable;"⟩, 6) := ⟨⟨by decide +kernel, by decide +kernel⟩, List.mem_of_getElem? (i := 289) (by decide +kernel), List.mem_of_getElem? (i := 287) (by decide +kernel), List.mem_of_getElem? (i := 288) (by decide +kernel)⟩
theorem lw_p13 : lw_okq (⟨"FileBuilder$Graph", "addEdge", "(III)I"⟩, 6) := ⟨⟨by decide +kernel, by decide +kernel⟩, List.mem_of_getElem? (i := 49) (by decide +kernel), List.mem_of_getElem? (i := 335) (by decide +kernel), List.mem_of_getElem? (i := 336) (by decide +kernel)⟩
theorem lw_p14 : lw_okq (⟨"FileBuilder$Graph", "hasEdge", "(I)Z"⟩, 6) := ⟨⟨by decide +kernel, by decide +kernel⟩, List.mem_of_getElem? (i := 49) (by decide +kernel), List.mem_of_getElem? (i := 346) (by decide +kernel), List.mem_of_getElem? (i := 347) (by decide +kernel)⟩
theorem lw_p15 : lw_okq (⟨"FileBuilder", "mayBecomeOutput", "(II)Z"⟩, 6) := ⟨⟨by decide +kernel, by decide +kernel⟩, List.mem_of_getElem? (i := 18) (by decide +kernel), List.mem_of_getElem? (i := 355) (by decide +kernel), List.mem_of_getElem? (i := 356) (by decide +kernel)⟩
def lw_privs_1 : List (MethodName × Nat) := [(⟨"FileBuilder$Build", "isUnderWay", "()Z"⟩, 4), (⟨"FileBuilder", "nextToBegin", "()I"⟩, 6), (⟨"FileBuilder$Build", "countAt", "(I)I"⟩, 4), (⟨"FileBuilder", "hasRoomInPool", "(I)Z"⟩, 6), (⟨"FileBuilder$Graph", "behind", "(IZ)I"⟩, 6), (⟨"FileBuilder$Graph", "waits", "(I)I"⟩, 6), (⟨"FileBuilder$Graph", "needs", "(I)I"⟩, 6), (⟨"FileBuilder$Graph", "isPhony", "(I)Z"⟩, 6), (⟨"FileBuilder$Graph", "hasFlag", "(II)Z"⟩, 6), (⟨"FileBuilder", "isMadeByPending", "(I)Z"⟩, 6), (⟨"FileBuilder$Build", "isPending", "(I)Z"⟩, 4), (⟨"FileBuilder$RecordLog", "hasByte", "(I)Z"⟩, 4), (⟨"java/lang/Throwable", "fillInStackTrace", "(I)Ljava/lang/Throwable;"⟩, 6), (⟨"FileBuilder$Graph", "addEdge", "(III)I"⟩, 6), (⟨"FileBuilder$Graph", "hasEdge", "(I)Z"⟩, 6), (⟨"FileBuilder", "mayBecomeOutput", "(II)Z"⟩, 6)]
theorem lw_r1 : ∀ q ∈ lw_privs_1, lw_okq q := List.forall_mem_cons.mpr ⟨lw_p0, List.forall_mem_cons.mpr ⟨lw_p1, List.forall_mem_cons.mpr ⟨lw_p2, List.forall_mem_cons.mpr ⟨lw_p3, List.forall_mem_cons.mpr ⟨lw_p4, List.forall_mem_cons.mpr ⟨lw_p5, List.forall_mem_cons.mpr ⟨lw_p6, List.forall_mem_cons.mpr ⟨lw_p7, List.forall_mem_cons.mpr ⟨lw_p8, List.forall_mem_cons.mpr ⟨lw_p9, List.forall_mem_cons.mpr ⟨lw_p10, List.forall_mem_cons.mpr ⟨lw_p11, List.forall_mem_cons.mpr ⟨lw_p12, List.forall_mem_cons.mpr ⟨lw_p13, List.forall_mem_cons.mpr ⟨lw_p14, List.forall_mem_cons.mpr ⟨lw_p15, fun _ h => absurd h List.not_mem_nil⟩⟩⟩⟩⟩⟩⟩⟩⟩⟩⟩⟩⟩⟩⟩⟩
theorem lw_p16 : lw_okq (⟨"FileBuilder$Graph", "made", "()I"⟩, 6) := ⟨⟨by decide +kernel, by decide +kernel⟩, List.mem_of_getElem? (i := 49) (by decide +kernel), List.mem_of_getElem? (i := 359) (by decide +kernel), List.mem_of_getElem? (i := 360) (by decide +kernel)⟩
theorem lw_p17 : lw_okq (⟨"FileBuilder$Graph", "read", "()I"⟩, 6) := ⟨⟨by decide +kernel, by decide +kernel⟩, List.mem_of_getElem? (i := 49) (by decide +kernel), List.mem_of_getElem? (i := 366) (by decide +kernel), List.mem_of_getElem? (i := 367) (by decide +kernel)⟩
theorem lw_p18 : lw_okq (⟨"FileBuilder$Graph", "join", "(III)V"⟩, 6) := ⟨⟨by decide +kernel, by decide +kernel⟩, List.mem_of_getElem? (i := 49) (by decide +kernel), List.mem_of_getElem? (i := 372) (by decide +kernel), List.mem_of_getElem? (i := 373) (by decide +kernel)⟩
theorem lw_p19 : lw_okq (⟨"FileBuilder", "refuseUnderWay", "()V"⟩, 6) := ⟨⟨by decide +kernel, by decide +kernel⟩, List.mem_of_getElem? (i := 18) (by decide +kernel), List.mem_of_getElem? (i := 393) (by decide +kernel), List.mem_of_getElem? (i := 394) (by decide +kernel)⟩
theorem lw_p20 : lw_okq (⟨"FileBuilder$Graph", "madeByPhonies", "()I"⟩, 6) := ⟨⟨by decide +kernel, by decide +kernel⟩, List.mem_of_getElem? (i := 49) (by decide +kernel), List.mem_of_getElem? (i := 413) (by decide +kernel), List.mem_of_getElem? (i := 414) (by decide +kernel)⟩
theorem lw_p21 : lw_okq (⟨"FileBuilder$Disk", "put", "(II)V"⟩, 4) := ⟨⟨by decide +kernel, by decide +kernel⟩, List.mem_of_getElem? (i := 26) (by decide +kernel), List.mem_of_getElem? (i := 418) (by decide +kernel), List.mem_of_getElem? (i := 419) (by decide +kernel)⟩
theorem lw_p22 : lw_okq (⟨"FileBuilder$Disk", "erase", "(I)V"⟩, 4) := ⟨⟨by decide +kernel, by decide +kernel⟩, List.mem_of_getElem? (i := 26) (by decide +kernel), List.mem_of_getElem? (i := 447) (by decide +kernel), List.mem_of_getElem? (i := 448) (by decide +kernel)⟩
theorem lw_p23 : lw_okq (⟨"FileBuilder$Graph", "reachedFrom", "(I)I"⟩, 6) := ⟨⟨by decide +kernel, by decide +kernel⟩, List.mem_of_getElem? (i := 49) (by decide +kernel), List.mem_of_getElem? (i := 461) (by decide +kernel), List.mem_of_getElem? (i := 462) (by decide +kernel)⟩
theorem lw_p24 : lw_okq (⟨"FileBuilder$Graph", "makersOf", "(I)I"⟩, 6) := ⟨⟨by decide +kernel, by decide +kernel⟩, List.mem_of_getElem? (i := 49) (by decide +kernel), List.mem_of_getElem? (i := 465) (by decide +kernel), List.mem_of_getElem? (i := 466) (by decide +kernel)⟩
theorem lw_p25 : lw_okq (⟨"FileBuilder$Graph", "waitedForBy", "(I)I"⟩, 6) := ⟨⟨by decide +kernel, by decide +kernel⟩, List.mem_of_getElem? (i := 49) (by decide +kernel), List.mem_of_getElem? (i := 469) (by decide +kernel), List.mem_of_getElem? (i := 470) (by decide +kernel)⟩
theorem lw_p26 : lw_okq (⟨"FileBuilder$Graph", "hasCycle", "(I)Z"⟩, 6) := ⟨⟨by decide +kernel, by decide +kernel⟩, List.mem_of_getElem? (i := 49) (by decide +kernel), List.mem_of_getElem? (i := 474) (by decide +kernel), List.mem_of_getElem? (i := 475) (by decide +kernel)⟩
theorem lw_p27 : lw_okq (⟨"FileBuilder$Graph", "nextToLookAt", "(II)I"⟩, 6) := ⟨⟨by decide +kernel, by decide +kernel⟩, List.mem_of_getElem? (i := 49) (by decide +kernel), List.mem_of_getElem? (i := 478) (by decide +kernel), List.mem_of_getElem? (i := 479) (by decide +kernel)⟩
theorem lw_p28 : lw_okq (⟨"FileBuilder", "isMissing", "(I)Z"⟩, 6) := ⟨⟨by decide +kernel, by decide +kernel⟩, List.mem_of_getElem? (i := 18) (by decide +kernel), List.mem_of_getElem? (i := 499) (by decide +kernel), List.mem_of_getElem? (i := 500) (by decide +kernel)⟩
theorem lw_p29 : lw_okq (⟨"FileBuilder$Build", "renew", "(II)V"⟩, 4) := ⟨⟨by decide +kernel, by decide +kernel⟩, List.mem_of_getElem? (i := 123) (by decide +kernel), List.mem_of_getElem? (i := 504) (by decide +kernel), List.mem_of_getElem? (i := 505) (by decide +kernel)⟩
theorem lw_p30 : lw_okq (⟨"FileBuilder", "findWhatIsToRun", "(I)V"⟩, 6) := ⟨⟨by decide +kernel, by decide +kernel⟩, List.mem_of_getElem? (i := 18) (by decide +kernel), List.mem_of_getElem? (i := 509) (by decide +kernel), List.mem_of_getElem? (i := 510) (by decide +kernel)⟩
theorem lw_p31 : lw_okq (⟨"FileBuilder", "isOutOfDate", "(I)Z"⟩, 6) := ⟨⟨by decide +kernel, by decide +kernel⟩, List.mem_of_getElem? (i := 18) (by decide +kernel), List.mem_of_getElem? (i := 514) (by decide +kernel), List.mem_of_getElem? (i := 515) (by decide +kernel)⟩
def lw_privs_2 : List (MethodName × Nat) := [(⟨"FileBuilder$Graph", "made", "()I"⟩, 6), (⟨"FileBuilder$Graph", "read", "()I"⟩, 6), (⟨"FileBuilder$Graph", "join", "(III)V"⟩, 6), (⟨"FileBuilder", "refuseUnderWay", "()V"⟩, 6), (⟨"FileBuilder$Graph", "madeByPhonies", "()I"⟩, 6), (⟨"FileBuilder$Disk", "put", "(II)V"⟩, 4), (⟨"FileBuilder$Disk", "erase", "(I)V"⟩, 4), (⟨"FileBuilder$Graph", "reachedFrom", "(I)I"⟩, 6), (⟨"FileBuilder$Graph", "makersOf", "(I)I"⟩, 6), (⟨"FileBuilder$Graph", "waitedForBy", "(I)I"⟩, 6), (⟨"FileBuilder$Graph", "hasCycle", "(I)Z"⟩, 6), (⟨"FileBuilder$Graph", "nextToLookAt", "(II)I"⟩, 6), (⟨"FileBuilder", "isMissing", "(I)Z"⟩, 6), (⟨"FileBuilder$Build", "renew", "(II)V"⟩, 4), (⟨"FileBuilder", "findWhatIsToRun", "(I)V"⟩, 6), (⟨"FileBuilder", "isOutOfDate", "(I)Z"⟩, 6)]
theorem lw_r2 : ∀ q ∈ lw_privs_2, lw_okq q := List.forall_mem_cons.mpr ⟨lw_p16, List.forall_mem_cons.mpr ⟨lw_p17, List.forall_mem_cons.mpr ⟨lw_p18, List.forall_mem_cons.mpr ⟨lw_p19, List.forall_mem_cons.mpr ⟨lw_p20, List.forall_mem_cons.mpr ⟨lw_p21, List.forall_mem_cons.mpr ⟨lw_p22, List.forall_mem_cons.mpr ⟨lw_p23, List.forall_mem_cons.mpr ⟨lw_p24, List.forall_mem_cons.mpr ⟨lw_p25, List.forall_mem_cons.mpr ⟨lw_p26, List.forall_mem_cons.mpr ⟨lw_p27, List.forall_mem_cons.mpr ⟨lw_p28, List.forall_mem_cons.mpr ⟨lw_p29, List.forall_mem_cons.mpr ⟨lw_p30, List.forall_mem_cons.mpr ⟨lw_p31, fun _ h => absurd h List.not_mem_nil⟩⟩⟩⟩⟩⟩⟩⟩⟩⟩⟩⟩⟩⟩⟩⟩
theorem lw_p32 : lw_okq (⟨"FileBuilder", "isUnknownToLog", "(I)Z"⟩, 6) := ⟨⟨by decide +kernel, by decide +kernel⟩, List.mem_of_getElem? (i := 18) (by decide +kernel), List.mem_of_getElem? (i := 519) (by decide +kernel), List.mem_of_getElem? (i := 520) (by decide +kernel)⟩
theorem lw_p33 : lw_okq (⟨"FileBuilder", "newest", "(I)I"⟩, 6) := ⟨⟨by decide +kernel, by decide +kernel⟩, List.mem_of_getElem? (i := 18) (by decide +kernel), List.mem_of_getElem? (i := 523) (by decide +kernel), List.mem_of_getElem? (i := 524) (by decide +kernel)⟩
theorem lw_p34 : lw_okq (⟨"FileBuilder$Disk", "greatestTime", "(I)I"⟩, 4) := ⟨⟨by decide +kernel, by decide +kernel⟩, List.mem_of_getElem? (i := 26) (by decide +kernel), List.mem_of_getElem? (i := 527) (by decide +kernel), List.mem_of_getElem? (i := 528) (by decide +kernel)⟩
theorem lw_p35 : lw_okq (⟨"FileBuilder", "isOlderThan", "(II)Z"⟩, 6) := ⟨⟨by decide +kernel, by decide +kernel⟩, List.mem_of_getElem? (i := 18) (by decide +kernel), List.mem_of_getElem? (i := 535) (by decide +kernel), List.mem_of_getElem? (i := 536) (by decide +kernel)⟩
theorem lw_p36 : lw_okq (⟨"FileBuilder$RecordLog", "reaches", "(II)Z"⟩, 4) := ⟨⟨by decide +kernel, by decide +kernel⟩, List.mem_of_getElem? (i := 97) (by decide +kernel), List.mem_of_getElem? (i := 539) (by decide +kernel), List.mem_of_getElem? (i := 540) (by decide +kernel)⟩
theorem lw_p37 : lw_okq (⟨"FileBuilder$RecordLog", "hasRecord", "(I)Z"⟩, 4) := ⟨⟨by decide +kernel, by decide +kernel⟩, List.mem_of_getElem? (i := 97) (by decide +kernel), List.mem_of_getElem? (i := 543) (by decide +kernel), List.mem_of_getElem? (i := 544) (by decide +kernel)⟩
theorem lw_p38 : lw_okq (⟨"FileBuilder", "settle", "()V"⟩, 6) := ⟨⟨by decide +kernel, by decide +kernel⟩, List.mem_of_getElem? (i := 18) (by decide +kernel), List.mem_of_getElem? (i := 547) (by decide +kernel), List.mem_of_getElem? (i := 548) (by decide +kernel)⟩
theorem lw_p39 : lw_okq (⟨"FileBuilder", "endWell", "(I)V"⟩, 6) := ⟨⟨by decide +kernel, by decide +kernel⟩, List.mem_of_getElem? (i := 18) (by decide +kernel), List.mem_of_getElem? (i := 559) (by decide +kernel), List.mem_of_getElem? (i := 560) (by decide +kernel)⟩
theorem lw_p40 : lw_okq (⟨"FileBuilder", "writeOutputs", "(I)V"⟩, 6) := ⟨⟨by decide +kernel, by decide +kernel⟩, List.mem_of_getElem? (i := 18) (by decide +kernel), List.mem_of_getElem? (i := 563) (by decide +kernel), List.mem_of_getElem? (i := 564) (by decide +kernel)⟩
theorem lw_p41 : lw_okq (⟨"FileBuilder", "mixOfWhatIsRead", "(I)I"⟩, 6) := ⟨⟨by decide +kernel, by decide +kernel⟩, List.mem_of_getElem? (i := 18) (by decide +kernel), List.mem_of_getElem? (i := 567) (by decide +kernel), List.mem_of_getElem? (i := 568) (by decide +kernel)⟩
theorem lw_p42 : lw_okq (⟨"FileBuilder$Readings", "keep", "(II)V"⟩, 2) := ⟨⟨by decide +kernel, by decide +kernel⟩, List.mem_of_getElem? (i := 81) (by decide +kernel), List.mem_of_getElem? (i := 576) (by decide +kernel), List.mem_of_getElem? (i := 577) (by decide +kernel)⟩
theorem lw_p43 : lw_okq (⟨"FileBuilder$RecordLog", "append", "(III)V"⟩, 4) := ⟨⟨by decide +kernel, by decide +kernel⟩, List.mem_of_getElem? (i := 97) (by decide +kernel), List.mem_of_getElem? (i := 580) (by decide +kernel), List.mem_of_getElem? (i := 581) (by decide +kernel)⟩
theorem lw_p44 : lw_okq (⟨"FileBuilder$RecordLog", "writeAnew", "()V"⟩, 4) := ⟨⟨by decide +kernel, by decide +kernel⟩, List.mem_of_getElem? (i := 97) (by decide +kernel), List.mem_of_getElem? (i := 584) (by decide +kernel), List.mem_of_getElem? (i := 585) (by decide +kernel)⟩
theorem lw_p45 : lw_okq (⟨"FileBuilder$RecordLog", "addBytes", "(I)V"⟩, 4) := ⟨⟨by decide +kernel, by decide +kernel⟩, List.mem_of_getElem? (i := 97) (by decide +kernel), List.mem_of_getElem? (i := 588) (by decide +kernel), List.mem_of_getElem? (i := 589) (by decide +kernel)⟩
theorem lw_p46 : lw_okq (⟨"FileBuilder$RecordLog", "checkOf", "(I)I"⟩, 4) := ⟨⟨by decide +kernel, by decide +kernel⟩, List.mem_of_getElem? (i := 97) (by decide +kernel), List.mem_of_getElem? (i := 592) (by decide +kernel), List.mem_of_getElem? (i := 593) (by decide +kernel)⟩
theorem lw_p47 : lw_okq (⟨"FileBuilder", "letGo", "()I"⟩, 6) := ⟨⟨by decide +kernel, by decide +kernel⟩, List.mem_of_getElem? (i := 18) (by decide +kernel), List.mem_of_getElem? (i := 596) (by decide +kernel), List.mem_of_getElem? (i := 597) (by decide +kernel)⟩
def lw_privs_3 : List (MethodName × Nat) := [(⟨"FileBuilder", "isUnknownToLog", "(I)Z"⟩, 6), (⟨"FileBuilder", "newest", "(I)I"⟩, 6), (⟨"FileBuilder$Disk", "greatestTime", "(I)I"⟩, 4), (⟨"FileBuilder", "isOlderThan", "(II)Z"⟩, 6), (⟨"FileBuilder$RecordLog", "reaches", "(II)Z"⟩, 4), (⟨"FileBuilder$RecordLog", "hasRecord", "(I)Z"⟩, 4), (⟨"FileBuilder", "settle", "()V"⟩, 6), (⟨"FileBuilder", "endWell", "(I)V"⟩, 6), (⟨"FileBuilder", "writeOutputs", "(I)V"⟩, 6), (⟨"FileBuilder", "mixOfWhatIsRead", "(I)I"⟩, 6), (⟨"FileBuilder$Readings", "keep", "(II)V"⟩, 2), (⟨"FileBuilder$RecordLog", "append", "(III)V"⟩, 4), (⟨"FileBuilder$RecordLog", "writeAnew", "()V"⟩, 4), (⟨"FileBuilder$RecordLog", "addBytes", "(I)V"⟩, 4), (⟨"FileBuilder$RecordLog", "checkOf", "(I)I"⟩, 4), (⟨"FileBuilder", "letGo", "()I"⟩, 6)]
theorem lw_r3 : ∀ q ∈ lw_privs_3, lw_okq q := List.forall_mem_cons.mpr ⟨lw_p32, List.forall_mem_cons.mpr ⟨lw_p33, List.forall_mem_cons.mpr ⟨lw_p34, List.forall_mem_cons.mpr ⟨lw_p35, List.forall_mem_cons.mpr ⟨lw_p36, List.forall_mem_cons.mpr ⟨lw_p37, List.forall_mem_cons.mpr ⟨lw_p38, List.forall_mem_cons.mpr ⟨lw_p39, List.forall_mem_cons.mpr ⟨lw_p40, List.forall_mem_cons.mpr ⟨lw_p41, List.forall_mem_cons.mpr ⟨lw_p42, List.forall_mem_cons.mpr ⟨lw_p43, List.forall_mem_cons.mpr ⟨lw_p44, List.forall_mem_cons.mpr ⟨lw_p45, List.forall_mem_cons.mpr ⟨lw_p46, List.forall_mem_cons.mpr ⟨lw_p47, fun _ h => absurd h List.not_mem_nil⟩⟩⟩⟩⟩⟩⟩⟩⟩⟩⟩⟩⟩⟩⟩⟩
theorem lw_p48 : lw_okq (⟨"FileBuilder", "refuseUnknownEdge", "(I)V"⟩, 6) := ⟨⟨by decide +kernel, by decide +kernel⟩, List.mem_of_getElem? (i := 18) (by decide +kernel), List.mem_of_getElem? (i := 607) (by decide +kernel), List.mem_of_getElem? (i := 608) (by decide +kernel)⟩
theorem lw_p49 : lw_okq (⟨"FileBuilder$RecordLog", "readAgain", "(I)V"⟩, 4) := ⟨⟨by decide +kernel, by decide +kernel⟩, List.mem_of_getElem? (i := 97) (by decide +kernel), List.mem_of_getElem? (i := 636) (by decide +kernel), List.mem_of_getElem? (i := 637) (by decide +kernel)⟩
theorem lw_p50 : lw_okq (⟨"FileBuilder$RecordLog", "isRight", "(I)Z"⟩, 4) := ⟨⟨by decide +kernel, by decide +kernel⟩, List.mem_of_getElem? (i := 97) (by decide +kernel), List.mem_of_getElem? (i := 643) (by decide +kernel), List.mem_of_getElem? (i := 644) (by decide +kernel)⟩
theorem lw_p51 : lw_okq (⟨"FileBuilder$RecordLog", "takeIn", "(I)V"⟩, 4) := ⟨⟨by decide +kernel, by decide +kernel⟩, List.mem_of_getElem? (i := 97) (by decide +kernel), List.mem_of_getElem? (i := 648) (by decide +kernel), List.mem_of_getElem? (i := 649) (by decide +kernel)⟩
theorem lw_p52 : lw_okq (⟨"FileBuilder$Readings", "forget", "()V"⟩, 2) := ⟨⟨by decide +kernel, by decide +kernel⟩, List.mem_of_getElem? (i := 81) (by decide +kernel), List.mem_of_getElem? (i := 652) (by decide +kernel), List.mem_of_getElem? (i := 653) (by decide +kernel)⟩
theorem lw_p53 : lw_okq (⟨"FileBuilder$Build", "forget", "()V"⟩, 4) := ⟨⟨by decide +kernel, by decide +kernel⟩, List.mem_of_getElem? (i := 123) (by decide +kernel), List.mem_of_getElem? (i := 656) (by decide +kernel), List.mem_of_getElem? (i := 657) (by decide +kernel)⟩
theorem lw_p54 : lw_okq (⟨"FileBuilderModel", "isEdge", "(I)Z"⟩, 30) := ⟨⟨by decide +kernel, by decide +kernel⟩, List.mem_of_getElem? (i := 660) (by decide +kernel), List.mem_of_getElem? (i := 776) (by decide +kernel), List.mem_of_getElem? (i := 777) (by decide +kernel)⟩
theorem lw_p55 : lw_okq (⟨"FileBuilderModel", "is", "(II)Z"⟩, 30) := ⟨⟨by decide +kernel, by decide +kernel⟩, List.mem_of_getElem? (i := 660) (by decide +kernel), List.mem_of_getElem? (i := 780) (by decide +kernel), List.mem_of_getElem? (i := 781) (by decide +kernel)⟩
theorem lw_p56 : lw_okq (⟨"FileBuilderModel", "byPhony", "(I)Z"⟩, 30) := ⟨⟨by decide +kernel, by decide +kernel⟩, List.mem_of_getElem? (i := 660) (by decide +kernel), List.mem_of_getElem? (i := 803) (by decide +kernel), List.mem_of_getElem? (i := 804) (by decide +kernel)⟩
theorem lw_p57 : lw_okq (⟨"FileBuilderModel", "put", "(II)V"⟩, 30) := ⟨⟨by decide +kernel, by decide +kernel⟩, List.mem_of_getElem? (i := 660) (by decide +kernel), List.mem_of_getElem? (i := 807) (by decide +kernel), List.mem_of_getElem? (i := 808) (by decide +kernel)⟩
theorem lw_p58 : lw_okq (⟨"FileBuilderModel", "reach", "(I)I"⟩, 30) := ⟨⟨by decide +kernel, by decide +kernel⟩, List.mem_of_getElem? (i := 660) (by decide +kernel), List.mem_of_getElem? (i := 820) (by decide +kernel), List.mem_of_getElem? (i := 821) (by decide +kernel)⟩
theorem lw_p59 : lw_okq (⟨"FileBuilderModel", "makersOf", "(I)I"⟩, 30) := ⟨⟨by decide +kernel, by decide +kernel⟩, List.mem_of_getElem? (i := 660) (by decide +kernel), List.mem_of_getElem? (i := 824) (by decide +kernel), List.mem_of_getElem? (i := 825) (by decide +kernel)⟩
theorem lw_p60 : lw_okq (⟨"FileBuilderModel", "waits", "(I)I"⟩, 30) := ⟨⟨by decide +kernel, by decide +kernel⟩, List.mem_of_getElem? (i := 660) (by decide +kernel), List.mem_of_getElem? (i := 828) (by decide +kernel), List.mem_of_getElem? (i := 829) (by decide +kernel)⟩
theorem lw_p61 : lw_okq (⟨"FileBuilderModel", "needs", "(I)I"⟩, 30) := ⟨⟨by decide +kernel, by decide +kernel⟩, List.mem_of_getElem? (i := 660) (by decide +kernel), List.mem_of_getElem? (i := 832) (by decide +kernel), List.mem_of_getElem? (i := 833) (by decide +kernel)⟩
theorem lw_p62 : lw_okq (⟨"FileBuilderModel", "lay", "(I)Z"⟩, 30) := ⟨⟨by decide +kernel, by decide +kernel⟩, List.mem_of_getElem? (i := 660) (by decide +kernel), List.mem_of_getElem? (i := 836) (by decide +kernel), List.mem_of_getElem? (i := 837) (by decide +kernel)⟩
theorem lw_p63 : lw_okq (⟨"FileBuilderModel", "refuse", "(I)I"⟩, 30) := ⟨⟨by decide +kernel, by decide +kernel⟩, List.mem_of_getElem? (i := 660) (by decide +kernel), List.mem_of_getElem? (i := 840) (by decide +kernel), List.mem_of_getElem? (i := 841) (by decide +kernel)⟩
def lw_privs_4 : List (MethodName × Nat) := [(⟨"FileBuilder", "refuseUnknownEdge", "(I)V"⟩, 6), (⟨"FileBuilder$RecordLog", "readAgain", "(I)V"⟩, 4), (⟨"FileBuilder$RecordLog", "isRight", "(I)Z"⟩, 4), (⟨"FileBuilder$RecordLog", "takeIn", "(I)V"⟩, 4), (⟨"FileBuilder$Readings", "forget", "()V"⟩, 2), (⟨"FileBuilder$Build", "forget", "()V"⟩, 4), (⟨"FileBuilderModel", "isEdge", "(I)Z"⟩, 30), (⟨"FileBuilderModel", "is", "(II)Z"⟩, 30), (⟨"FileBuilderModel", "byPhony", "(I)Z"⟩, 30), (⟨"FileBuilderModel", "put", "(II)V"⟩, 30), (⟨"FileBuilderModel", "reach", "(I)I"⟩, 30), (⟨"FileBuilderModel", "makersOf", "(I)I"⟩, 30), (⟨"FileBuilderModel", "waits", "(I)I"⟩, 30), (⟨"FileBuilderModel", "needs", "(I)I"⟩, 30), (⟨"FileBuilderModel", "lay", "(I)Z"⟩, 30), (⟨"FileBuilderModel", "refuse", "(I)I"⟩, 30)]
theorem lw_r4 : ∀ q ∈ lw_privs_4, lw_okq q := List.forall_mem_cons.mpr ⟨lw_p48, List.forall_mem_cons.mpr ⟨lw_p49, List.forall_mem_cons.mpr ⟨lw_p50, List.forall_mem_cons.mpr ⟨lw_p51, List.forall_mem_cons.mpr ⟨lw_p52, List.forall_mem_cons.mpr ⟨lw_p53, List.forall_mem_cons.mpr ⟨lw_p54, List.forall_mem_cons.mpr ⟨lw_p55, List.forall_mem_cons.mpr ⟨lw_p56, List.forall_mem_cons.mpr ⟨lw_p57, List.forall_mem_cons.mpr ⟨lw_p58, List.forall_mem_cons.mpr ⟨lw_p59, List.forall_mem_cons.mpr ⟨lw_p60, List.forall_mem_cons.mpr ⟨lw_p61, List.forall_mem_cons.mpr ⟨lw_p62, List.forall_mem_cons.mpr ⟨lw_p63, fun _ h => absurd h List.not_mem_nil⟩⟩⟩⟩⟩⟩⟩⟩⟩⟩⟩⟩⟩⟩⟩⟩
theorem lw_p64 : lw_okq (⟨"FileBuilderModel", "isMissing", "(I)Z"⟩, 30) := ⟨⟨by decide +kernel, by decide +kernel⟩, List.mem_of_getElem? (i := 660) (by decide +kernel), List.mem_of_getElem? (i := 844) (by decide +kernel), List.mem_of_getElem? (i := 845) (by decide +kernel)⟩
theorem lw_p65 : lw_okq (⟨"FileBuilderModel", "findNewest", "()V"⟩, 30) := ⟨⟨by decide +kernel, by decide +kernel⟩, List.mem_of_getElem? (i := 660) (by decide +kernel), List.mem_of_getElem? (i := 848) (by decide +kernel), List.mem_of_getElem? (i := 849) (by decide +kernel)⟩
theorem lw_p66 : lw_okq (⟨"FileBuilderModel", "newestOf", "(I)I"⟩, 30) := ⟨⟨by decide +kernel, by decide +kernel⟩, List.mem_of_getElem? (i := 660) (by decide +kernel), List.mem_of_getElem? (i := 852) (by decide +kernel), List.mem_of_getElem? (i := 853) (by decide +kernel)⟩
theorem lw_p67 : lw_okq (⟨"FileBuilderModel", "any", "(I)Z"⟩, 30) := ⟨⟨by decide +kernel, by decide +kernel⟩, List.mem_of_getElem? (i := 660) (by decide +kernel), List.mem_of_getElem? (i := 856) (by decide +kernel), List.mem_of_getElem? (i := 857) (by decide +kernel)⟩
theorem lw_p68 : lw_okq (⟨"FileBuilderModel", "open", "(I)Z"⟩, 30) := ⟨⟨by decide +kernel, by decide +kernel⟩, List.mem_of_getElem? (i := 660) (by decide +kernel), List.mem_of_getElem? (i := 860) (by decide +kernel), List.mem_of_getElem? (i := 861) (by decide +kernel)⟩
theorem lw_p69 : lw_okq (⟨"FileBuilderModel", "outOfDate", "(I)Z"⟩, 30) := ⟨⟨by decide +kernel, by decide +kernel⟩, List.mem_of_getElem? (i := 660) (by decide +kernel), List.mem_of_getElem? (i := 864) (by decide +kernel), List.mem_of_getElem? (i := 865) (by decide +kernel)⟩
theorem lw_p70 : lw_okq (⟨"FileBuilderModel", "old", "(II)Z"⟩, 30) := ⟨⟨by decide +kernel, by decide +kernel⟩, List.mem_of_getElem? (i := 660) (by decide +kernel), List.mem_of_getElem? (i := 868) (by decide +kernel), List.mem_of_getElem? (i := 869) (by decide +kernel)⟩
theorem lw_p71 : lw_okq (⟨"FileBuilderModel", "next", "()I"⟩, 30) := ⟨⟨by decide +kernel, by decide +kernel⟩, List.mem_of_getElem? (i := 660) (by decide +kernel), List.mem_of_getElem? (i := 876) (by decide +kernel), List.mem_of_getElem? (i := 877) (by decide +kernel)⟩
theorem lw_p72 : lw_okq (⟨"FileBuilderModel", "count", "(II)I"⟩, 30) := ⟨⟨by decide +kernel, by decide +kernel⟩, List.mem_of_getElem? (i := 660) (by decide +kernel), List.mem_of_getElem? (i := 880) (by decide +kernel), List.mem_of_getElem? (i := 881) (by decide +kernel)⟩
theorem lw_p73 : lw_okq (⟨"FileBuilderModel", "markPhonies", "(Z)V"⟩, 30) := ⟨⟨by decide +kernel, by decide +kernel⟩, List.mem_of_getElem? (i := 660) (by decide +kernel), List.mem_of_getElem? (i := 884) (by decide +kernel), List.mem_of_getElem? (i := 885) (by decide +kernel)⟩
theorem lw_p74 : lw_okq (⟨"FileBuilderModel", "make", "(I)V"⟩, 30) := ⟨⟨by decide +kernel, by decide +kernel⟩, List.mem_of_getElem? (i := 660) (by decide +kernel), List.mem_of_getElem? (i := 892) (by decide +kernel), List.mem_of_getElem? (i := 893) (by decide +kernel)⟩
theorem lw_p75 : lw_okq (⟨"FileBuilderModel", "record", "(III)V"⟩, 30) := ⟨⟨by decide +kernel, by decide +kernel⟩, List.mem_of_getElem? (i := 660) (by decide +kernel), List.mem_of_getElem? (i := 900) (by decide +kernel), List.mem_of_getElem? (i := 901) (by decide +kernel)⟩
theorem lw_p76 : lw_okq (⟨"FileBuilderModel", "append", "(I)V"⟩, 30) := ⟨⟨by decide +kernel, by decide +kernel⟩, List.mem_of_getElem? (i := 660) (by decide +kernel), List.mem_of_getElem? (i := 904) (by decide +kernel), List.mem_of_getElem? (i := 905) (by decide +kernel)⟩
theorem lw_p77 : lw_okq (⟨"FileBuilderModel", "letGo", "()I"⟩, 30) := ⟨⟨by decide +kernel, by decide +kernel⟩, List.mem_of_getElem? (i := 660) (by decide +kernel), List.mem_of_getElem? (i := 908) (by decide +kernel), List.mem_of_getElem? (i := 909) (by decide +kernel)⟩
theorem lw_p78 : lw_okq (⟨"FileBuilderModel", "right", "(I)Z"⟩, 30) := ⟨⟨by decide +kernel, by decide +kernel⟩, List.mem_of_getElem? (i := 660) (by decide +kernel), List.mem_of_getElem? (i := 936) (by decide +kernel), List.mem_of_getElem? (i := 937) (by decide +kernel)⟩
def lw_privs_5 : List (MethodName × Nat) := [(⟨"FileBuilderModel", "isMissing", "(I)Z"⟩, 30), (⟨"FileBuilderModel", "findNewest", "()V"⟩, 30), (⟨"FileBuilderModel", "newestOf", "(I)I"⟩, 30), (⟨"FileBuilderModel", "any", "(I)Z"⟩, 30), (⟨"FileBuilderModel", "open", "(I)Z"⟩, 30), (⟨"FileBuilderModel", "outOfDate", "(I)Z"⟩, 30), (⟨"FileBuilderModel", "old", "(II)Z"⟩, 30), (⟨"FileBuilderModel", "next", "()I"⟩, 30), (⟨"FileBuilderModel", "count", "(II)I"⟩, 30), (⟨"FileBuilderModel", "markPhonies", "(Z)V"⟩, 30), (⟨"FileBuilderModel", "make", "(I)V"⟩, 30), (⟨"FileBuilderModel", "record", "(III)V"⟩, 30), (⟨"FileBuilderModel", "append", "(I)V"⟩, 30), (⟨"FileBuilderModel", "letGo", "()I"⟩, 30), (⟨"FileBuilderModel", "right", "(I)Z"⟩, 30)]
theorem lw_r5 : ∀ q ∈ lw_privs_5, lw_okq q := List.forall_mem_cons.mpr ⟨lw_p64, List.forall_mem_cons.mpr ⟨lw_p65, List.forall_mem_cons.mpr ⟨lw_p66, List.forall_mem_cons.mpr ⟨lw_p67, List.forall_mem_cons.mpr ⟨lw_p68, List.forall_mem_cons.mpr ⟨lw_p69, List.forall_mem_cons.mpr ⟨lw_p70, List.forall_mem_cons.mpr ⟨lw_p71, List.forall_mem_cons.mpr ⟨lw_p72, List.forall_mem_cons.mpr ⟨lw_p73, List.forall_mem_cons.mpr ⟨lw_p74, List.forall_mem_cons.mpr ⟨lw_p75, List.forall_mem_cons.mpr ⟨lw_p76, List.forall_mem_cons.mpr ⟨lw_p77, List.forall_mem_cons.mpr ⟨lw_p78, fun _ h => absurd h List.not_mem_nil⟩⟩⟩⟩⟩⟩⟩⟩⟩⟩⟩⟩⟩⟩⟩
def lw_privs : List (MethodName × Nat) := lw_privs_1 ++ (lw_privs_2 ++ (lw_privs_3 ++ (lw_privs_4 ++ (lw_privs_5))))
def lw_tbl : List Cond := k2_sels lw_privs ++ tables_1
theorem lw_privs_ok : ∀ q ∈ lw_privs, lw_okq q := by
  show ∀ q ∈ lw_privs_1 ++ (lw_privs_2 ++ (lw_privs_3 ++ (lw_privs_4 ++ (lw_privs_5)))), lw_okq q
  exact List.forall_mem_append.mpr ⟨lw_r1, List.forall_mem_append.mpr ⟨lw_r2, List.forall_mem_append.mpr ⟨lw_r3, List.forall_mem_append.mpr ⟨lw_r4, lw_r5⟩⟩⟩⟩
end
section
/-! numbers -/
def xIn (x lo hi : Int32) : Int32 := if lo ≤ x ∧ x ≤ hi then 1 else 0
def xOut (x lo hi : Int32) : Int32 := if x < lo ∨ hi < x then 1 else 0
theorem xIn_1 {x lo hi : Int32} (h1 : ¬ x < lo) (h2 : ¬ hi < x) : (1 : Int32) = xIn x lo hi := by
  unfold xIn
  rw [if_pos]
  simp only [Int32.le_iff_toInt_le, Int32.lt_iff_toInt_lt] at *
  omega
theorem xIn_0a {x lo hi : Int32} (h1 : x < lo) : (0 : Int32) = xIn x lo hi := by
  unfold xIn
  rw [if_neg]
  simp only [Int32.le_iff_toInt_le, Int32.lt_iff_toInt_lt] at *
  omega
theorem xIn_0b {x lo hi : Int32} (h1 : hi < x) : (0 : Int32) = xIn x lo hi := by
  unfold xIn
  rw [if_neg]
  simp only [Int32.le_iff_toInt_le, Int32.lt_iff_toInt_lt] at *
  omega
theorem xOut_1a {x lo hi : Int32} (h1 : x < lo) : (1 : Int32) = xOut x lo hi := by
  unfold xOut
  rw [if_pos (Or.inl h1)]
theorem xOut_1b {x lo hi : Int32} (h1 : hi < x) : (1 : Int32) = xOut x lo hi := by
  unfold xOut
  rw [if_pos (Or.inr h1)]
theorem xOut_0 {x lo hi : Int32} (h1 : ¬ x < lo) (h2 : ¬ hi < x) : (0 : Int32) = xOut x lo hi := by
  unfold xOut
  rw [if_neg (fun h => h.elim h1 h2)]
theorem xOut_In (x lo hi : Int32) : xOut x lo hi = 0 ↔ xIn x lo hi = 1 := by
  unfold xOut xIn
  simp only [Int32.le_iff_toInt_le, Int32.lt_iff_toInt_lt]
  by_cases h : x.toInt < lo.toInt ∨ hi.toInt < x.toInt
  · rw [if_pos h, if_neg (by omega)]
    decide
  · rw [if_neg h, if_pos (by omega)]
    decide
theorem xIn_bin (x lo hi : Int32) : xIn x lo hi = 0 ∨ xIn x lo hi = 1 := by
  unfold xIn
  by_cases h : lo ≤ x ∧ x ≤ hi
  · rw [if_pos h]; exact Or.inr rfl
  · rw [if_neg h]; exact Or.inl rfl
theorem xOut_bin (x lo hi : Int32) : xOut x lo hi = 0 ∨ xOut x lo hi = 1 := by
  unfold xOut
  by_cases h : x < lo ∨ hi < x
  · rw [if_pos h]; exact Or.inr rfl
  · rw [if_neg h]; exact Or.inl rfl
theorem xIn_nar (x lo hi : Int32) : narrow .boolean (.int (xIn x lo hi)) = .int (xIn x lo hi) := by
  rcases xIn_bin x lo hi with h | h <;> rw [h] <;> rfl
theorem xOut_nar (x lo hi : Int32) : narrow .boolean (.int (xOut x lo hi)) = .int (xOut x lo hi) := by
  rcases xOut_bin x lo hi with h | h <;> rw [h] <;> rfl
theorem xIn_none (x : Int32) : xIn x 0 (-1) = 0 := by
  unfold xIn
  rw [if_neg]
  simp only [Int32.le_iff_toInt_le]
  have h0 : (0 : Int32).toInt = 0 := by decide
  have h1 : (-1 : Int32).toInt = -1 := by decide
  omega
theorem xOut_none (x : Int32) : xOut x 0 (-1) = 1 := by
  unfold xOut
  rw [if_pos]
  simp only [Int32.lt_iff_toInt_lt]
  have h0 : (0 : Int32).toInt = 0 := by decide
  have h1 : (-1 : Int32).toInt = -1 := by decide
  omega
theorem xIn_ge {x lo hi : Int32} (h : xIn x lo hi = 1) : lo ≤ x ∧ x ≤ hi := by
  unfold xIn at h
  by_cases g : lo ≤ x ∧ x ≤ hi
  · exact g
  · rw [if_neg g] at h
    exact absurd h (by decide)
theorem xIn_in {x hi : Int32} {n : Nat} (h : xIn x 0 hi = 1) (hn : hi.toInt + 1 = n) : vp_in x n := by
  rw [vp_in_iff]
  obtain ⟨h1, h2⟩ := xIn_ge h
  simp only [Int32.le_iff_toInt_le] at h1 h2
  have h0 : (0 : Int32).toInt = 0 := by decide
  omega
theorem xne0 {x : Int32} (h : x = 0 ∨ x = 1) (h0 : ¬ x = 0) : x = 1 := h.resolve_left h0
theorem xne1 {x : Int32} (h : x = 1) : ¬ x = 0 := by rw [h]; decide
section XN
variable {p : Program} {l : Launch} {e : Env} {R : Room} {s : State} {m : MethodId} {args : Array Value} {below : List Frame} {meth : Method} {c : Code} {H : Heap} {locs : List Loc} {cells slots : Nat} {Q : State → Prop}
theorem xnum {pc : Nat} {ls : Array Slot} {rest : List Value} {x v : Int32} (h : x = v) (k : W p l e R s m args below meth c H locs cells slots Q (F0 m pc ls (.int v :: rest))) : W p l e R s m args below meth c H locs cells slots Q (F0 m pc ls (.int x :: rest)) := h ▸ k
end XN
end
section
/-! ends by a throw: contract, walk, call, leaving, catching -/
def xt_FE (first t : State) (L : List Loc) (k n : Nat) : Prop := first.WarmedH t.vm ∧ first.sameButNew ({ t with vm := first.vm } : State) L k n
def xt_E (X : String) (st : State) (o : Outcome) (t : State) : Prop :=
  ∃ (a : Addr) (cell : Cell), o = .threw a ∧ st.heap.size ≤ a ∧ t.heap[a]? = some cell ∧ cell.vm.isStatics = false ∧ st.vm.findClass X = some cell.cls
def xt_Met (l : Launch) (y : MethodName) (ws : List Cond) (rm : Room) (Pc : Array Value → State → Prop) (X : String) (mc ms : Nat) (A : Nat → Prop) : Prop :=
  MetFree l y (headSpec ws rm) Pc (fun _ _ _ _ _ => True) (fun _ st o t => xt_E X st o t ∧ ∃ L, xt_FE st t L mc ms ∧ ∀ q ∈ L, A q.base)
def xt_Q (below : List Frame) (X : String) (s : State) (mc ms : Nat) (A : Nat → Prop) : State → Prop := fun t =>
  ∃ o, t.status = .running ∧ Ended t below o ∧ xt_E X s o t ∧ ∃ L, xt_FE s t L mc ms ∧ ∀ q ∈ L, A q.base
theorem xt_F {A : Nat → Prop} {s t : State} {L : List Loc} {k n : Nat} (h : s.sameButNew ({ t with vm := s.vm } : State) L k n) (hL : ∀ q ∈ L, A q.base) : va_F A s t := by
  obtain ⟨-, h1, -, -, -, h6⟩ := h
  refine ⟨h1, fun q hq hA => ?_⟩
  have hs : s.heap[q]? = some s.heap[q] := Array.getElem?_eq_getElem hq
  obtain ⟨c', e1, e2, e3, e4⟩ := h6 q _ hs
  have e5 : c'.slots = s.heap[q].slots := by
    apply Array.ext_getElem?
    intro i
    exact e4 i (fun hm => hA (hL _ hm))
  have e6 : c' = s.heap[q] := e2.trans (by rw [e5])
  rw [hs, ← e6]
  exact e1
theorem xt_ofW {l : Launch} {y : MethodName} {ws ws' : List Cond} {rm : Room} {Pc : Array Value → State → Prop} {X : String} {mc ms : Nat} {A : Nat → Prop} {cc : ByteArray} {maxL : Nat} {ret : Option FieldType}
    (hy : plainName y.cls = true) (hw : ws = Cond.code y cc maxL ret :: ws')
    (body : ∀ p e s m args below meth c s₁, BodyLoose p l y (headSpec ws rm) cc maxL ret e s m args below meth c s₁ → c.maxLocals = maxL → Pc args s →
      W p l e (headSpec ws rm).room s m args below meth c s.heap [] 0 0 (xt_Q below X s mc ms A) (entryFrame m args maxL)) : xt_Met l y ws rm Pc X mc ms A := by
  refine MetFree.of_bodyS (code := cc) (maxLocals := maxL) (ret := ret) hy ?_ ?_
  · intro args s m h hn
    obtain ⟨meth, c, h1, h2, h3, h4, h5, h6, -, -⟩ := Cond.code_spec hn (atoms_spec (ws := ws) h _ (by rw [hw]; exact List.mem_cons_self))
    exact ⟨meth, c, h1, h2, h3, h4, h5, h6⟩
  · intro p e s m args below meth c s₁ B hml hP _
    have hh0 : s₁.heap = s.heap := by rw [B.state]; rfl
    obtain ⟨t, a1, o, b1, b2, b3⟩ := body p e s m args below meth c s₁ B hml hP s₁ hh0 (Stand.of_body B)
    exact ⟨t, o, a1, b1, b2, ⟨b3.1, b3.2⟩⟩
section XT1
variable {p : Program} {l : Launch} {e : Env} {R : Room} {s : State} {m : MethodId} {args : Array Value} {below : List Frame} {meth : Method} {c : Code} {H : Heap} {locs : List Loc} {cells slots : Nat} {Q : State → Prop}
variable {cc : ByteArray} {pc : Nat} {ls : Array Slot} {rest : List Value} {A : Nat → Prop}
/-- new X("..") and athrow, out of the method -/
theorem xt_throw {mc ms : Nat} (hexec : p.tables.exec = Jvm.exec) (hb : c.code = cc) (hml : c.maxLocals = ls.size) (hfl : l.flags = pinnedFlags ++ [noTraceFlag]) (hlocks : meth.locks = false) (hemp : c.exceptionTable.isEmpty = true)
    {own X : String} {names : List String} {ia ib ic q : Nat} {tx : String} (hown : s.vm.findClass own = some m.cls)
    (hcl : (Cond.classLink own ia X).before args s = true) (hinst : (Cond.instantiable X 6).before args s = true) (hini : (Cond.initialized X).before args s = true)
    (hX : Bundle.fit X = true) (hN : ∀ n ∈ names, Bundle.fit n = true) (hat : ∀ a ∈ Bundle.ownAtoms own ic X names, a.before args s = true) (hZ : vk_R own ib tx q s)
    (hS : va_S A s.heap H locs) (hAs : ∀ q, A q → ∀ cell, s.heap[q]? = some cell → cell.vm.isStatics = false)
    (hc : cells + 1 ≤ R.cells) (hsl : slots + 6 ≤ R.slots) (hmc : cells + 1 ≤ mc) (hms : slots + 6 ≤ ms)
    (hRf : names.length + 3 < R.frames) (hRl : ((rest.map fun v => v.category).sum + 1) + (13 * (names.length + 1) + 42) ≤ R.locals)
    (d0 : decode cc pc = .ok (.new ia, 3)) (d3 : decode cc (pc + 3) = .ok (.dup, 1)) (d4 : decode cc (pc + 3 + 1) = .ok (.ldc ib, 2)) (d6 : decode cc (pc + 3 + 1 + 2) = .ok (.invokespecial ic, 3)) (d9 : decode cc (pc + 3 + 1 + 2 + 3) = .ok (.athrow, 1)) :
    W p l e R s m args below meth c H locs cells slots (xt_Q below X s mc ms A) (F0 m pc ls rest) := by
  obtain ⟨cX, kX0, hfX, hkX0, -⟩ := Cond.instantiable_spec hinst
  refine W.newcK (g := F0 m pc ls rest) hexec hb hown hcl hinst hini rfl d0 hc hsl hfX rfl fun H1 kC hkC e1 z1 o1 => ?_
  refine lv_dup hexec hb d3 rfl ?_
  refine va_ldcS hexec hb hown hZ d4 ?_
  intro T hT X0
  have hout : ∀ x ∈ c.exceptionTable.toList, covers x (pc + 3 + 1 + 2 + 3) = false := by
    intro x hx
    have h0 : c.exceptionTable.size = 0 := by simpa [Array.isEmpty] using hemp
    have h1 : c.exceptionTable.toList = [] := List.eq_nil_of_length_eq_zero (by simpa using h0)
    rw [h1] at hx
    cases hx
  obtain ⟨U, st, hrun, hend, hW, hsame, ce, hce, hoc⟩ := X0.ctorThrowS hexec (Launch.traces_off hfl X0.admits) hown hX hN hat (fun x hx cell hcell => hAs _ (hS.2.2 x hx) cell hcell) hfX hkC (a := H.size) (by rw [hT]; exact e1) hS.1 (msg := .ref q) rfl
    (g := F0 m (pc + 3 + 1 + 2) ls (.ref q :: .ref H.size :: .ref H.size :: rest)) rfl hml.symm rfl rfl (rest := rest) rfl (by rw [hb]; exact d6) (by rw [hb]; exact d9) hout hRf (by
      show 2 * 0 + (1 + (rest.map fun v => v.category).sum) + _ ≤ _
      omega) hlocks
  exact ⟨U, st, .threw H.size, hrun, hend, ⟨H.size, ce, rfl, hS.1, hce, by rw [hoc.vm]; rfl, hoc.cls⟩, locs, ⟨hW, hsame.mono hmc hms⟩, hS.2.2⟩
/-- the machine while x is thrown over the frame g -/
def xt_W (p : Program) (l : Launch) (e : Env) (R : Room) (s : State) (m : MethodId) (args : Array Value) (below : List Frame) (meth : Method) (c : Code) (H : Heap) (locs : List Loc) (cells slots : Nat) (Q : State → Prop) (g : JFrame) (x : Addr) : Prop :=
  ∀ T : State, T.heap = H → Stand p l e R s m args below meth c T locs cells slots → ∃ t, Steps p.tables e below ((T.setTop g).pushFrame (.throwing x)) t ∧ Q t
theorem xt_back {y : MethodName} {bytes : ByteArray} {maxL len Wt mc ms : Nat} {ret : Option FieldType} {ws : List Cond} {rm : Room} {Pc : Array Value → State → Prop} {X : String}
    (hM : xt_Met l y ws rm Pc X mc ms A) (hblind : FrameBlind Pc) (hrc : rm.cells = mc) (hrs : rm.slots = ms)
    (hframes : rm.frames + 1 ≤ R.frames) (hlocals : Wt + (maxL + 11) + rm.locals ≤ R.locals)
    (hws : ∀ w ∈ ws, ∀ (a' : Array Value) (U : State), s.WarmedH U.vm → w.before a' U = true) (hcode : Cond.code y bytes maxL ret ∈ ws) (hinit : ∀ (a' : Array Value) (U : State), s.WarmedH U.vm → (Cond.initialized y.cls).before a' U = true)
    {U : State} {Ls : List Loc} {c0 s0 : Nat} (X0 : Stand p l e R s m args below meth c U Ls c0 s0) {g : JFrame} (hg : g.method = m) (hsize : g.locals.size = c.maxLocals) {ig : Instr} (hdg : decode c.code g.pc = .ok (ig, len))
    (hW : 2 * g.monitorRoom + (g.stack.map fun v => v.category).sum ≤ Wt) {mk : MethodId} (hn : U.methodNamed? y = some mk) {a : Array Value} (hP : Pc a U) (hc0 : c0 + mc ≤ R.cells) (hs0 : s0 + ms ≤ R.slots) :
    ∃ (x : Addr) (cell : Cell) (V : State) (L : List Loc), Stand p l e R s m args below meth c V (Ls ++ L) (c0 + mc) (s0 + ms) ∧ (∀ q ∈ L, A q.base) ∧ U.heap.size ≤ x ∧ V.heap[x]? = some cell ∧ cell.vm.isStatics = false ∧ U.vm.findClass X = some cell.cls ∧ va_F A U V ∧
      Steps p.tables e below (doInvoke e (U.setTop g) [] mk a).1 ((V.setTop g).pushFrame (.throwing x)) := by
  have h2 := hws _ hcode a U X0.warmed
  have h3 := hinit a U X0.warmed
  have h1 : (headSpec ws rm).pre.before a U = true := atoms_intro fun w hw => hws w hw _ _ X0.warmed
  obtain ⟨methY, cY, hmY, hcY, -, hlY, -, -, -, -⟩ := Cond.code_spec hn h2
  obtain ⟨kY, hkY, -⟩ := className_of_methodNamed hn
  have hinitY : kY.init = .initialized := Cond.initialized_spec (findClass_of_methodNamed hn) hkY h3
  have h : At U g.method c below := by rw [hg]; exact X0.here
  have hl2 : 2 * g.monitorRoom + (g.stack.map fun v => v.category).sum + (cY.maxLocals + 11) + rm.locals ≤ R.locals := by rw [hlY]; omega
  have happ : (headSpec ws rm).appliesLoose y e.platform (U.calling g mk a) = true :=
    Spec.appliesLoose_calling (g := g) h hdg hn hkY hinitY
      (X0.room_calling (g := g) (R' := (headSpec ws rm).room) hsize hmY hcY hframes hl2 (by show c0 + rm.cells ≤ _; rw [hrc]; exact hc0) (by show s0 + rm.slots ≤ _; rw [hrs]; exact hs0)) h1
  obtain ⟨mid, hmid⟩ := h.above
  have hfr : (U.setTop g).frames = (.java g :: mid) ++ below := by rw [State.frames_setTop' g h.top, hmid]; rfl
  obtain ⟨o, s₂, hsteps, -, hend, hq⟩ := Steps.callFree hM p X0.admits X0.cas X0.clock (acts := []) hfr happ (hblind _ _ _ _ hP) trivial
  rw [State.frames_setTop' g h.top] at hend
  have hq' : xt_E X (U.calling g mk a) o s₂ ∧ ∃ L, xt_FE (U.calling g mk a) s₂ L mc ms ∧ ∀ q ∈ L, A q.base := hq
  obtain ⟨⟨x, cell, rfl, hx1, hx2, hx3, hx4⟩, L, ⟨hW₂, hsb⟩, hL⟩ := hq'
  have hfF := xt_F hsb hL
  obtain ⟨e2, q2, q3, q4, q5, q6⟩ := id hsb
  have e3 : s₂ = ({ (U.calling g mk a).setFrames s₂.frames with heap := s₂.heap, slotsUsed := s₂.slotsUsed } : State).setVm s₂.vm := by
    have : s₂ = ({ s₂ with vm := (U.calling g mk a).vm } : State).setVm s₂.vm := rfl
    rw [e2] at this
    exact this
  have hf₂ : s₂.frames = .throwing x :: .java g :: U.frames.tail := hend
  have hW' : U.WarmedH s₂.vm := hW₂
  obtain ⟨g₀, hg0⟩ := Option.isSome_iff_exists.mp h.top
  obtain ⟨r, hr⟩ := State.topJava?_eq_some.mp hg0
  have hs₂ : s₂ = ((({ U with heap := s₂.heap, slotsUsed := s₂.slotsUsed } : State).setVm s₂.vm).setTop g).pushFrame (.throwing x) := by
    have hr' : (({ U with heap := s₂.heap, slotsUsed := s₂.slotsUsed } : State).setVm s₂.vm).frames = .java g₀ :: r := hr
    refine e3.trans ?_
    rw [hf₂, State.calling_eq h.top, State.setFrames_setFrames, State.pushFrame, State.frames_setTop _ hr', State.setTop_of_frames _ hr', State.setFrames_setFrames, hr]
    rfl
  have hsame : U.sameButNew ({ U with heap := s₂.heap, slotsUsed := s₂.slotsUsed } : State) L mc ms := by
    refine ⟨?_, q2, q3, q4, q5, q6⟩
    obtain ⟨t, ht, -⟩ := State.frames_cons hr
    show ({ U with heap := s₂.heap, slotsUsed := s₂.slotsUsed } : State) = { U.setFrames U.frames with heap := s₂.heap, slotsUsed := s₂.slotsUsed }
    rw [State.setFrames_self ht]
  subst hg
  refine ⟨x, cell, (({ U with heap := s₂.heap, slotsUsed := s₂.slotsUsed } : State).setVm s₂.vm), L,
    ⟨X0.admits, X0.cas, X0.clock, X0.frames, X0.room, X0.hears, X0.method, X0.code, (X0.here.setHeapUsed s₂.heap s₂.slotsUsed).setVm hW'.alike, X0.tail, State.WarmedH.trans X0.warmed hW', X0.limits, X0.bytes, X0.same.trans (hsame.setVm s.vm)⟩, hL, hx1, hx2, hx3, hx4, hfF, ?_⟩
  rw [← hs₂]
  exact hsteps
/-- a call (invokevirtual) of a method that throws -/
theorem xt_callV {y : MethodName} {bytes : ByteArray} {maxL nL mc ms n index : Nat} {ret : Option FieldType} {ws : List Cond} {rm : Room} {Pc : Array Value → State → Prop} {X : String} {Ts : List Cond} {own C : String} {b : Addr} {As : List Value} {st0 : List Value} {A0 : Nat → Prop} {H0 : Heap}
    (S : CallFix p m c cc nL s args Ts own) (hM : xt_Met l y ws rm Pc X mc ms A) (cw : CallW R s args own C index y bytes maxL ret ws rm mc ms n) (hp : PreV s H C b Pc As)
    (hn : As.length = n) (hsize : ls.size = nL) (hstack : st0 = As.reverse ++ .ref b :: rest) (hW : (rest.map fun v => v.category).sum ≤ 8) (hdg : decode cc pc = .ok (.invokevirtual index, 3)) (hf : cells + mc ≤ R.cells ∧ slots + ms ≤ R.slots)
    (hS : va_S A0 H0 H locs) (hA : ∀ q, q < H.size → A q → A0 q) (hfA : ∀ q, A q → A0 q)
    (kk : ∀ (x : Addr) (cell : Cell) (H1 : Heap) (locs1 : List Loc), H.size ≤ x → H1[x]? = some cell → cell.vm.isStatics = false → s.vm.findClass X = some cell.cls → H.size ≤ H1.size → (∀ q : Nat, q < H.size → ¬ A q → H1[q]? = H[q]?) → va_S A0 H0 H1 locs1 →
      xt_W p l e R s m args below meth c H1 locs1 (cells + mc) (slots + ms) Q (F0 m pc ls rest) x) :
    W p l e R s m args below meth c H locs cells slots Q (F0 m pc ls st0) := by
  obtain ⟨⟨hrc, hrs, hfr, hlo, hws, hcw, hcode, hini, hy, hlen, hl⟩, hin, hse⟩ := cw
  obtain ⟨hx, hb, hml, ho, -⟩ := S
  obtain ⟨hbl, ⟨cellB, hcB, hoB, hclB⟩, hPc⟩ := hp
  intro T hT X0
  obtain ⟨mk, methM, hnamed, hmethM, hstM, habM⟩ := Cond.instanceMethod_spec hin
  obtain ⟨methM', cM, hmethM', -, -, -, -, -, -, hsigM⟩ := Cond.code_spec hnamed hcode
  cases hmethM.symm.trans hmethM'
  obtain ⟨c2, r2, m2, q1, q2, q3, q4, kP, hkP, hkPi⟩ := Cond.selects_spec hse
  cases hclB.symm.trans q1
  cases (State.methodFound?_of_named hnamed hy).symm.trans q2
  cases hnamed.symm.trans q3
  have hselP : selectMethod e.platform s.vm cellB.cls mk = .method mk := by rw [Launch.admits_selectMethod X0.admits]; exact q4
  obtain ⟨vm₁, X₁, hstep₁⟩ := X0.invokevirtual hx ho hl hnamed hmethM hstM hkP hkPi hy (a := b) (cell := cellB) (by rw [hT]; exact hcB)
    (fun z h => by rw [h] at hoB; cases hoB) hselP hmethM habM hkP hkPi (g := F0 m pc ls st0) rfl (argsL := As) (rest := rest) (hn.trans (hlen _ hsigM)) hstack (by rw [hb]; exact hdg)
  obtain ⟨x, cell, V, L, XV, hL, hx1, hx2, hx3, hx4, hx5, hst⟩ := xt_back (Wt := 8) (bytes := bytes) (maxL := maxL) (ret := ret) hM hbl hrc hrs hfr hlo hws hcw (fun a' U hW => word_at hW (Or.inl (by first | rfl | simp [Cond.onTables, Cond.keeps, Cond.steady])) hini) X₁
    (g := { F0 m pc ls st0 with stack := rest }) rfl (hsize.trans hml.symm) (by rw [hb]; exact hdg) (by show 2 * 0 + (rest.map fun v => v.category).sum ≤ 8; omega) (X₁.named hnamed) (hPc (T.setVm vm₁) hT X₁.warmed) hf.1 hf.2
  have hTs : (T.setVm vm₁).heap = H := hT
  rw [hTs] at hx1
  have hcl4 : s.vm.findClass X = some cell.cls := by rw [← X₁.warmed.alike.findClass]; exact hx4
  obtain ⟨z1, z2⟩ := hx5
  rw [hTs] at z1 z2
  obtain ⟨t, a1, b1⟩ := kk x cell V.heap (locs ++ L) hx1 hx2 hx3 hcl4 z1 z2
    ⟨Nat.le_trans hS.1 z1, fun q h1 h2 => by rw [z2 q (Nat.lt_of_lt_of_le h1 hS.1) (fun z => h2 (hA q (Nat.lt_of_lt_of_le h1 hS.1) z))]; exact hS.2.1 q h1 h2, fun q hq => by
      rcases List.mem_append.mp hq with h | h
      · exact hS.2.2 q h
      · exact hfA _ (hL q h)⟩ V rfl XV
  exact ⟨t, hstep₁ _ fun acts => by rw [doInvoke_state]; exact hst.trans a1, b1⟩
/-- out of the method, no handler -/
theorem xt_leave {X : String} {mc ms : Nat} {x : Addr} {cell : Cell} {st : List Value} (hlocks : meth.locks = false) (hemp : c.exceptionTable.isEmpty = true) (hS : va_S A s.heap H locs) (hx1 : s.heap.size ≤ x) (hx2 : H[x]? = some cell) (hx3 : cell.vm.isStatics = false) (hx4 : s.vm.findClass X = some cell.cls) (hmc : cells ≤ mc) (hms : slots ≤ ms) :
    xt_W p l e R s m args below meth c H locs cells slots (xt_Q below X s mc ms A) (F0 m pc ls st) x := by
  intro T hT X0
  have hout : ∀ y ∈ c.exceptionTable.toList, covers y pc = false := by
    intro y hy
    have h0 : c.exceptionTable.size = 0 := by simpa [Array.isEmpty] using hemp
    have h1 : c.exceptionTable.toList = [] := List.eq_nil_of_length_eq_zero (by simpa using h0)
    rw [h1] at hy
    cases hy
  obtain ⟨w1, w2, w3, w4, w5⟩ := X0.leaveThrown x (g := F0 m pc ls st) rfl rfl rfl hout hlocks
  exact ⟨_, w1, .threw x, w2, w3, ⟨x, cell, rfl, hx1, by rw [← hT] at hx2; exact hx2, hx3, hx4⟩, locs, ⟨w4, w5.mono hmc hms⟩, hS.2.2⟩
end XT1
end
section
/-! a thrown object caught by a handler whose catch types may still be unresolved -/
def xt_Go (e : Env) (s : State) (f : JFrame) (a : Addr) (t : List ExceptionTableEntry) (h : Handler) (vm' : Vm) : Prop :=
  ∀ (Q : Handler → Pre) (E : CtlPost) (d : Bool) (acts : List Action), wp (findHandler.go f a t) Q E e d acts s ↔ Q h d acts (s.setVm vm')
theorem xt_go_hit {e : Env} {s : State} {f : JFrame} {a : Addr} {x : ExceptionTableEntry} {t : List ExceptionTableEntry} {c : ClassId} {cell : Cell} {vm' : Vm}
    (hx : covers x f.pc = true) (h0 : x.catchType ≠ 0) (hg : (resolveClass f.method.cls x.catchType).Gives e.toSetting s.vm (.ok c) vm') (hsz : vm'.classes.size ≤ s.vm.classes.size)
    (hcell : s.heap[a]? = some cell) (hobj : ∀ k, cell.vm ≠ .statics k) (hk : ∃ k, vm'.classes[cell.cls]? = some k) (hc : ∃ k, vm'.classes[c]? = some k) (hfit : vm'.assignable cell.cls c = true) :
    xt_Go e s f a (x :: t) (.found x.handlerPc) vm' := by
  intro Q E d acts
  obtain ⟨ha, ht⟩ := hg.op (op := VmOp.resolveClass f.method.cls x.catchType) rfl
  simp only [covers] at hx
  simp [findHandler.go, hx, h0, ha, ht, hsz, hcell, hobj, hk, hc, hfit, VmOp.dirties, VmOp.acts]
theorem xt_go_pass {e : Env} {s : State} {f : JFrame} {a : Addr} {x : ExceptionTableEntry} {t : List ExceptionTableEntry} {c : ClassId} {cell : Cell} {vm' vm₂ : Vm} {h : Handler}
    (hx : covers x f.pc = true) (h0 : x.catchType ≠ 0) (hg : (resolveClass f.method.cls x.catchType).Gives e.toSetting s.vm (.ok c) vm') (hsz : vm'.classes.size ≤ s.vm.classes.size)
    (hcell : s.heap[a]? = some cell) (hobj : ∀ k, cell.vm ≠ .statics k) (hk : ∃ k, vm'.classes[cell.cls]? = some k) (hc : ∃ k, vm'.classes[c]? = some k) (hfit : vm'.assignable cell.cls c = false)
    (hr : xt_Go e (s.setVm vm') f a t h vm₂) : xt_Go e s f a (x :: t) h vm₂ := by
  intro Q E d acts
  obtain ⟨ha, ht⟩ := hg.op (op := VmOp.resolveClass f.method.cls x.catchType) rfl
  have e2 : (s.setVm vm').setVm vm₂ = s.setVm vm₂ := rfl
  have hr' := hr Q E d acts
  rw [e2] at hr'
  rw [← hr']
  simp only [covers] at hx
  simp [findHandler.go, hx, h0, ha, ht, hsz, hcell, hobj, hk, hc, hfit, VmOp.dirties, VmOp.acts]
/-- the clause that takes an X thrown at pc -/
def xt_Sel (own X : String) (pc : Nat) (args : Array Value) (s : State) : List (Nat × Nat × Nat × Nat) → Nat → Prop
  | [], _ => False
  | q :: t, h => q.1 ≤ pc ∧ pc < q.2.1 ∧ q.2.2.2 ≠ 0 ∧ ∃ C, (Cond.classLink own q.2.2.2 C).before args s = true ∧ ((q.2.2.1 = h ∧ (Cond.castable X C).before args s = true) ∨ (va_Nc X C s ∧ xt_Sel own X pc args s t h))
theorem xt_find {e : Env} {s : State} {m : MethodId} {args : Array Value} {own X : String} {pc h : Nat} {x : Addr} {cell : Cell} {f : JFrame} (hpl : e.platform.magicAccessors = ({} : Platform).magicAccessors) (hown : s.vm.findClass own = some m.cls) (hf : f.method = m) (hpc : f.pc = pc) (hx3 : cell.vm.isStatics = false) (hx4 : s.vm.findClass X = some cell.cls) :
    ∀ (hh : List (Nat × Nat × Nat × Nat)) (T : State), xt_Sel own X pc args s hh h → s.WarmedH T.vm → T.heap[x]? = some cell → ∃ vm', s.WarmedH vm' ∧ xt_Go e T f x (tableOf hh) (.found h) vm' := by
  intro hh
  induction hh with
  | nil => intro T hs _ _; exact hs.elim
  | cons q t ih =>
    intro T hs hW hcell
    obtain ⟨h1, h2, h0, C, hlink, hor⟩ := hs
    obtain ⟨c', hc', hcl⟩ := Cond.classLink_spec hown hlink e.platform hpl
    obtain ⟨dk, _, _, kt, hd, _, _, _, _, hkt, _, hopen⟩ := hcl.here
    have hcl₀ := hW.classLinks hcl
    have hW' : s.WarmedH (T.vm.noted m.cls q.2.2.2 (.cls c')) := hW.noted hd hopen (State.rightAt_cls hcl)
    obtain ⟨ks, hks, -⟩ := Vm.findClass_spec hx4
    obtain ⟨ks', hks', -⟩ := hW'.alike.2.2 _ _ hks
    obtain ⟨kt', hkt', -⟩ := hW'.alike.2.2 _ _ hkt
    have hcov : covers (⟨q.1, q.2.1, q.2.2.1, q.2.2.2⟩ : ExceptionTableEntry) f.pc = true := by
      simp only [covers, hpc, Bool.and_eq_true, decide_eq_true_eq]
      exact ⟨h1, h2⟩
    have hg : (resolveClass f.method.cls (⟨q.1, q.2.1, q.2.2.1, q.2.2.2⟩ : ExceptionTableEntry).catchType).Gives e.toSetting T.vm (.ok c') (T.vm.noted m.cls q.2.2.2 (.cls c')) := by
      rw [hf]; exact resolveClass_links e.toSetting hcl₀
    have hsz : (T.vm.noted m.cls q.2.2.2 (.cls c')).classes.size ≤ T.vm.classes.size := by no_record
    rcases hor with ⟨rfl, hcast⟩ | ⟨⟨c1, t1, n1, n2, n3⟩, hrest⟩
    · obtain ⟨c3, c4, hc3, hc4, hasg⟩ := Cond.castable_spec hcast
      cases hx4.symm.trans hc3
      cases hc'.symm.trans hc4
      refine ⟨_, hW', xt_go_hit hcov h0 hg hsz hcell (VmData.ne_statics_of hx3) ⟨ks', hks'⟩ ⟨kt', hkt'⟩ ?_⟩
      rw [hW'.alike.assignable]; exact hasg
    · cases hx4.symm.trans n1
      cases hc'.symm.trans n2
      obtain ⟨vm₂, hW₂, hgo⟩ := ih (T.setVm (T.vm.noted m.cls q.2.2.2 (.cls c'))) hrest hW' hcell
      refine ⟨vm₂, hW₂, xt_go_pass hcov h0 hg hsz hcell (VmData.ne_statics_of hx3) ⟨ks', hks'⟩ ⟨kt', hkt'⟩ ?_ hgo⟩
      rw [hW'.alike.assignable]; exact n3
theorem xt_stepCatch {e : Env} {s : State} {a : Addr} {f : JFrame} {r : List Frame} {pc : Nat} {vm' : Vm} (hfind : ∀ (Q : Handler → Pre) (E : CtlPost) (d : Bool) (acts : List Action), wp (findHandler f a) Q E e d acts s ↔ Q (.found pc) d acts (s.setVm vm')) :
    (stepThrowing e s a (.java f :: r)).Is ((s.setVm vm').setFrames (.java { f with pc := pc, stack := [.ref a] } :: r)) [] := by
  simp only [stepThrowing, searchFrame, vmDo]
  generalize hr : Sem.go _ e false [] s = res
  obtain ⟨as, rfl, ha⟩ := Sem.eq_ok_of hr (a := Handler.found pc) (s' := s.setVm vm') (acts' := []) (by simp [hfind _ _ _ _])
  exact ⟨rfl, ha⟩
theorem xt_caught {tb : Tables} {e : Env} {s target : State} {g : JFrame} {c : Code} {below : List Frame} {a : Addr} {vm' : Vm} (h : At s g.method c below) {pc : Nat}
    (hfind : ∀ (Q : Handler → Pre) (E : CtlPost) (d : Bool) (acts : List Action), wp (findHandler g a) Q E e d acts ((s.setTop g).pushFrame (.throwing a)) ↔ Q (.found pc) d acts (((s.setTop g).pushFrame (.throwing a)).setVm vm'))
    (hrest : Steps tb e below ((s.setVm vm').setTop { g with pc := pc, stack := [.ref a] }) target) : Steps tb e below ((s.setTop g).pushFrame (.throwing a)) target := by
  obtain ⟨hgo, hw⟩ := h.throwing a
  refine Steps.head hgo hw ?_
  rw [stepThread_throwing (frames_entered h.top _), (xt_stepCatch (s := (s.setTop g).pushFrame (.throwing a)) hfind).1]
  obtain ⟨g₀, hg⟩ := Option.isSome_iff_exists.mp h.top
  obtain ⟨r, hr⟩ := State.topJava?_eq_some.mp hg
  have hr2 : (s.setVm vm').frames = .java g₀ :: r := hr
  rw [State.setTop_of_frames _ hr2] at hrest
  have e1 : (((s.setTop g).pushFrame (.throwing a)).setVm vm').setFrames (.java { g with pc := pc, stack := [.ref a] } :: s.frames.tail) = (s.setVm vm').setFrames (.java { g with pc := pc, stack := [.ref a] } :: r) := by
    have e2 : ((s.setTop g).pushFrame (.throwing a)).setFrames (.java { g with pc := pc, stack := [.ref a] } :: s.frames.tail) = s.setFrames (.java { g with pc := pc, stack := [.ref a] } :: r) := by
      rw [State.pushFrame, State.setFrames_setFrames, State.setTop_of_frames _ hr, State.setFrames_setFrames, hr]
      rfl
    have e3 := congrArg (fun z : State => z.setVm vm') e2
    exact e3
  rw [e1]
  exact hrest
section XT2
variable {p : Program} {l : Launch} {e : Env} {R : Room} {s : State} {m : MethodId} {args : Array Value} {below : List Frame} {meth : Method} {c : Code} {H : Heap} {locs : List Loc} {cells slots : Nat} {Q : State → Prop}
variable {pc : Nat} {ls : Array Slot}
theorem xt_catch {own X : String} {hh : List (Nat × Nat × Nat × Nat)} {hpc : Nat} {x : Addr} {cell : Cell} {st : List Value} (htab : c.exceptionTable.toList = tableOf hh) (hown : s.vm.findClass own = some m.cls)
    (hsel : xt_Sel own X pc args s hh hpc) (hx2 : H[x]? = some cell) (hx3 : cell.vm.isStatics = false) (hx4 : s.vm.findClass X = some cell.cls)
    (k : W p l e R s m args below meth c H locs cells slots Q (F0 m hpc ls [.ref x])) : xt_W p l e R s m args below meth c H locs cells slots Q (F0 m pc ls st) x := by
  intro T hT X0
  have hpl : e.platform.magicAccessors = ({} : Platform).magicAccessors := by rw [X0.admits.platform]
  have hv0 := Stand.throwing_vm T (F0 m pc ls st) x
  have hh0 := Stand.throwing_heap T (F0 m pc ls st) x
  obtain ⟨vm', hW', hgo⟩ := xt_find (e := e) (x := x) (f := F0 m pc ls st) hpl hown rfl rfl hx3 hx4 hh ((T.setTop (F0 m pc ls st)).pushFrame (.throwing x)) hsel (by rw [hv0]; exact X0.warmed) (by rw [hh0, hT]; exact hx2)
  have hm' : ((T.setTop (F0 m pc ls st)).pushFrame (.throwing x)).vm.method? (F0 m pc ls st).method = some meth := by rw [hv0]; exact X0.method'
  obtain ⟨t, a1, b1⟩ := k (T.setVm vm') hT (X0.noted hW')
  refine ⟨t, xt_caught (g := F0 m pc ls st) (vm' := vm') X0.here (fun Q E d acts => ?_) a1, b1⟩
  rw [W.findHandler_eq hm' X0.code, htab]
  exact hgo Q E d acts
end XT2
end
section
/-! what surrounds every call: the good words, the nest's links, the texts, what is no subclass of what, the statics of Throwable -/
def xTB : List Cond := lw_tbl.filter goodWord
theorem x_in {w : Cond} (h : w ∈ lw_tbl) (g : goodWord w = true) : w ∈ xTB := List.mem_filter.mpr ⟨h, g⟩
theorem x_tb {w : Cond} (k : Nat) (h : tables_1[k]? = some w) (g : goodWord w = true) : w ∈ xTB := x_in (List.mem_append_right _ (List.mem_of_getElem? h)) g
theorem x_t1 {w : Cond} (k : Nat) (h : tables_1_1[k]? = some w) (g : goodWord w = true) : w ∈ xTB := x_in (List.mem_append_right _ (show w ∈ tables_1_1 ++ (tables_1_2 ++ (tables_1_3 ++ tables_1_4)) from List.mem_append_left _ (List.mem_of_getElem? h))) g
theorem x_t2 {w : Cond} (k : Nat) (h : tables_1_2[k]? = some w) (g : goodWord w = true) : w ∈ xTB := x_in (List.mem_append_right _ (show w ∈ tables_1_1 ++ (tables_1_2 ++ (tables_1_3 ++ tables_1_4)) from List.mem_append_right _ (List.mem_append_left _ (List.mem_of_getElem? h)))) g
theorem x_t3 {w : Cond} (k : Nat) (h : tables_1_3[k]? = some w) (g : goodWord w = true) : w ∈ xTB := x_in (List.mem_append_right _ (show w ∈ tables_1_1 ++ (tables_1_2 ++ (tables_1_3 ++ tables_1_4)) from List.mem_append_right _ (List.mem_append_right _ (List.mem_append_left _ (List.mem_of_getElem? h))))) g
theorem x_t4 {w : Cond} (k : Nat) (h : tables_1_4[k]? = some w) (g : goodWord w = true) : w ∈ xTB := x_in (List.mem_append_right _ (show w ∈ tables_1_1 ++ (tables_1_2 ++ (tables_1_3 ++ tables_1_4)) from List.mem_append_right _ (List.mem_append_right _ (List.mem_append_right _ (List.mem_of_getElem? h))))) g
theorem x_sel {q : MethodName × Nat} (k : Nat) (h : lw_privs[k]? = some q) : Cond.selects q.1.cls q.1 q.1 ∈ xTB := x_in (List.mem_append_left _ (List.mem_map.mpr ⟨q, List.mem_of_getElem? h, rfl⟩)) rfl
theorem x_good {a b : Cond} (hb : b ∈ xTB) : GoodIn (a :: xTB) (b :: xTB) := by
  intro w hw
  rcases List.mem_cons.mp hw with rfl | hw
  · exact ⟨List.mem_cons_of_mem _ hb, good_of_word (List.mem_filter.mp hb).2⟩
  · exact ⟨List.mem_cons_of_mem _ hw, good_of_word (List.mem_filter.mp hw).2⟩
def xIsN : Cond → Bool
  | .fieldLinkNest _ _ _ _ _ _ => true
  | .methodLinkNest _ _ _ _ => true
  | .declares _ => true
  | .castable _ _ => true
  | _ => false
def xNT : List Cond := [(Jvm.Cond.methodLinkNest "FileBuilder" (11 : Nat) ({ cls := "FileBuilder$Disk", name := "<init>", desc := "()V" } : Jvm.MethodName) "FileBuilder"), (Jvm.Cond.fieldLinkNest "FileBuilder" (213 : Nat) "FileBuilder$Disk" "contents" "[I" "FileBuilder"), (Jvm.Cond.fieldLinkNest "FileBuilder" (216 : Nat) "FileBuilder$Disk" "times" "[I" "FileBuilder"), (Jvm.Cond.fieldLinkNest "FileBuilder" (146 : Nat) "FileBuilder$Disk" "there" "I" "FileBuilder"), (Jvm.Cond.methodLinkNest "FileBuilder" (18 : Nat) ({ cls := "FileBuilder$Graph", name := "<init>", desc := "()V" } : Jvm.MethodName) "FileBuilder"), (Jvm.Cond.fieldLinkNest "FileBuilder" (124 : Nat) "FileBuilder$Graph" "commands" "[I" "FileBuilder"), (Jvm.Cond.fieldLinkNest "FileBuilder" (307 : Nat) "FileBuilder$Graph" "pools" "[I" "FileBuilder"), (Jvm.Cond.fieldLinkNest "FileBuilder" (119 : Nat) "FileBuilder$Graph" "readBy" "[I" "FileBuilder"), (Jvm.Cond.fieldLinkNest "FileBuilder" (266 : Nat) "FileBuilder$Graph" "links" "[[I" "FileBuilder"), (Jvm.Cond.fieldLinkNest "FileBuilder" (72 : Nat) "FileBuilder$Graph" "count" "I" "FileBuilder"), (Jvm.Cond.methodLinkNest "FileBuilder" (25 : Nat) ({ cls := "FileBuilder$Readings", name := "<init>", desc := "()V" } : Jvm.MethodName) "FileBuilder"), (Jvm.Cond.fieldLinkNest "FileBuilder" (270 : Nat) "FileBuilder$Readings" "recorded" "[I" "FileBuilder"), (Jvm.Cond.fieldLinkNest "FileBuilder" (276 : Nat) "FileBuilder$Readings" "known" "[Z" "FileBuilder"), (Jvm.Cond.methodLinkNest "FileBuilder" (32 : Nat) ({ cls := "FileBuilder$RecordLog", name := "<init>", desc := "()V" } : Jvm.MethodName) "FileBuilder"), (Jvm.Cond.fieldLinkNest "FileBuilder" (229 : Nat) "FileBuilder$RecordLog" "bytes" "[I" "FileBuilder"), (Jvm.Cond.fieldLinkNest "FileBuilder" (223 : Nat) "FileBuilder$RecordLog" "commands" "[I" "FileBuilder"), (Jvm.Cond.fieldLinkNest "FileBuilder" (222 : Nat) "FileBuilder$RecordLog" "times" "[I" "FileBuilder"), (Jvm.Cond.fieldLinkNest "FileBuilder" (241 : Nat) "FileBuilder$RecordLog" "length" "I" "FileBuilder"), (Jvm.Cond.methodLinkNest "FileBuilder" (39 : Nat) ({ cls := "FileBuilder$Build", name := "<init>", desc := "()V" } : Jvm.MethodName) "FileBuilder"), (Jvm.Cond.fieldLinkNest "FileBuilder" (196 : Nat) "FileBuilder$Build" "steps" "[I" "FileBuilder"), (Jvm.Cond.fieldLinkNest "FileBuilder" (298 : Nat) "FileBuilder$Build" "jobs" "I" "FileBuilder"), (Jvm.Cond.fieldLinkNest "FileBuilder" (301 : Nat) "FileBuilder$Build" "fail" "I" "FileBuilder"), (Jvm.Cond.fieldLinkNest "FileBuilder" (207 : Nat) "FileBuilder$Build" "stage" "I" "FileBuilder"), (Jvm.Cond.methodLinkNest "FileBuilder" (76 : Nat) ({ cls := "FileBuilder$Build", name := "isUnderWay", desc := "()Z" } : Jvm.MethodName) "FileBuilder"), (Jvm.Cond.methodLinkNest "FileBuilder" (190 : Nat) ({ cls := "FileBuilder$Build", name := "countAt", desc := "(I)I" } : Jvm.MethodName) "FileBuilder"), (Jvm.Cond.methodLinkNest "FileBuilder" (259 : Nat) ({ cls := "FileBuilder$Graph", name := "behind", desc := "(IZ)I" } : Jvm.MethodName) "FileBuilder"), (Jvm.Cond.methodLinkNest "FileBuilder" (295 : Nat) ({ cls := "FileBuilder$Build", name := "isPending", desc := "(I)Z" } : Jvm.MethodName) "FileBuilder"), (Jvm.Cond.methodLinkNest "FileBuilder" (226 : Nat) ({ cls := "FileBuilder$RecordLog", name := "hasByte", desc := "(I)Z" } : Jvm.MethodName) "FileBuilder"), (Jvm.Cond.methodLinkNest "FileBuilder$RecordLog" (31 : Nat) ({ cls := "FileBuilder", name := "isIn", desc := "(III)Z" } : Jvm.MethodName) "FileBuilder"), (Jvm.Cond.castable "java/lang/IllegalArgumentException" "java/lang/IllegalArgumentException"), (Jvm.Cond.declares ({ cls := "java/lang/RuntimeException", name := "<init>", desc := "()V" } : Jvm.MethodName)), (Jvm.Cond.declares ({ cls := "java/lang/RuntimeException", name := "<init>", desc := "(Ljava/lang/String;)V" } : Jvm.MethodName)), (Jvm.Cond.declares ({ cls := "java/lang/Exception", name := "<init>", desc := "()V" } : Jvm.MethodName)), (Jvm.Cond.declares ({ cls := "java/lang/Exception", name := "<init>", desc := "(Ljava/lang/String;)V" } : Jvm.MethodName)), (Jvm.Cond.declares ({ cls := "java/lang/Throwable", name := "<init>", desc := "()V" } : Jvm.MethodName)), (Jvm.Cond.declares ({ cls := "java/lang/Throwable", name := "<init>", desc := "(Ljava/lang/String;)V" } : Jvm.MethodName)), (Jvm.Cond.castable "java/lang/IllegalStateException" "java/lang/IllegalStateException"), (Jvm.Cond.methodLinkNest "FileBuilder" (85 : Nat) ({ cls := "FileBuilder$Graph", name := "addEdge", desc := "(III)I" } : Jvm.MethodName) "FileBuilder"), (Jvm.Cond.methodLinkNest "FileBuilder" (89 : Nat) ({ cls := "FileBuilder$Graph", name := "hasEdge", desc := "(I)Z" } : Jvm.MethodName) "FileBuilder"), (Jvm.Cond.methodLinkNest "FileBuilder$Graph" (33 : Nat) ({ cls := "FileBuilder", name := "isIn", desc := "(III)Z" } : Jvm.MethodName) "FileBuilder"), (Jvm.Cond.methodLinkNest "FileBuilder" (112 : Nat) ({ cls := "FileBuilder$Graph", name := "made", desc := "()I" } : Jvm.MethodName) "FileBuilder"), (Jvm.Cond.methodLinkNest "FileBuilder" (249 : Nat) ({ cls := "FileBuilder$Graph", name := "read", desc := "()I" } : Jvm.MethodName) "FileBuilder"), (Jvm.Cond.methodLinkNest "FileBuilder" (107 : Nat) ({ cls := "FileBuilder$Graph", name := "isPhony", desc := "(I)Z" } : Jvm.MethodName) "FileBuilder"), (Jvm.Cond.methodLinkNest "FileBuilder" (103 : Nat) ({ cls := "FileBuilder$Graph", name := "join", desc := "(III)V" } : Jvm.MethodName) "FileBuilder"), (Jvm.Cond.methodLinkNest "FileBuilder" (135 : Nat) ({ cls := "FileBuilder$Graph", name := "madeByPhonies", desc := "()I" } : Jvm.MethodName) "FileBuilder"), (Jvm.Cond.methodLinkNest "FileBuilder" (140 : Nat) ({ cls := "FileBuilder$Disk", name := "put", desc := "(II)V" } : Jvm.MethodName) "FileBuilder"), (Jvm.Cond.castable "java/util/NoSuchElementException" "java/util/NoSuchElementException"), (Jvm.Cond.methodLinkNest "FileBuilder" (154 : Nat) ({ cls := "FileBuilder$Disk", name := "erase", desc := "(I)V" } : Jvm.MethodName) "FileBuilder"), (Jvm.Cond.methodLinkNest "FileBuilder" (161 : Nat) ({ cls := "FileBuilder$Graph", name := "reachedFrom", desc := "(I)I" } : Jvm.MethodName) "FileBuilder"), (Jvm.Cond.methodLinkNest "FileBuilder$Graph" (52 : Nat) ({ cls := "FileBuilder", name := "has", desc := "(II)Z" } : Jvm.MethodName) "FileBuilder"), (Jvm.Cond.methodLinkNest "FileBuilder" (165 : Nat) ({ cls := "FileBuilder$Graph", name := "hasCycle", desc := "(I)Z" } : Jvm.MethodName) "FileBuilder"), (Jvm.Cond.castable "java/lang/UnsupportedOperationException" "java/lang/UnsupportedOperationException"), (Jvm.Cond.methodLinkNest "FileBuilder" (173 : Nat) ({ cls := "FileBuilder$Graph", name := "waitedForBy", desc := "(I)I" } : Jvm.MethodName) "FileBuilder"), (Jvm.Cond.methodLinkNest "FileBuilder" (181 : Nat) ({ cls := "FileBuilder$Build", name := "renew", desc := "(II)V" } : Jvm.MethodName) "FileBuilder"), (Jvm.Cond.methodLinkNest "FileBuilder" (252 : Nat) ({ cls := "FileBuilder$Graph", name := "nextToLookAt", desc := "(II)I" } : Jvm.MethodName) "FileBuilder"), (Jvm.Cond.methodLinkNest "FileBuilder" (273 : Nat) ({ cls := "FileBuilder$Graph", name := "hasFlag", desc := "(II)Z" } : Jvm.MethodName) "FileBuilder"), (Jvm.Cond.methodLinkNest "FileBuilder" (292 : Nat) ({ cls := "FileBuilder$Disk", name := "greatestTime", desc := "(I)I" } : Jvm.MethodName) "FileBuilder"), (Jvm.Cond.methodLinkNest "FileBuilder$Disk" (25 : Nat) ({ cls := "FileBuilder", name := "has", desc := "(II)Z" } : Jvm.MethodName) "FileBuilder"), (Jvm.Cond.methodLinkNest "FileBuilder" (289 : Nat) ({ cls := "FileBuilder$RecordLog", name := "reaches", desc := "(II)Z" } : Jvm.MethodName) "FileBuilder"), (Jvm.Cond.methodLinkNest "FileBuilder" (325 : Nat) ({ cls := "FileBuilder$Graph", name := "needs", desc := "(I)I" } : Jvm.MethodName) "FileBuilder"), (Jvm.Cond.methodLinkNest "FileBuilder" (313 : Nat) ({ cls := "FileBuilder$Readings", name := "keep", desc := "(II)V" } : Jvm.MethodName) "FileBuilder"), (Jvm.Cond.methodLinkNest "FileBuilder" (316 : Nat) ({ cls := "FileBuilder$RecordLog", name := "append", desc := "(III)V" } : Jvm.MethodName) "FileBuilder"), (Jvm.Cond.methodLinkNest "FileBuilder" (219 : Nat) ({ cls := "FileBuilder$RecordLog", name := "hasRecord", desc := "(I)Z" } : Jvm.MethodName) "FileBuilder"), (Jvm.Cond.methodLinkNest "FileBuilder" (234 : Nat) ({ cls := "FileBuilder$RecordLog", name := "readAgain", desc := "(I)V" } : Jvm.MethodName) "FileBuilder"), (Jvm.Cond.methodLinkNest "FileBuilder$RecordLog" (50 : Nat) ({ cls := "FileBuilder", name := "isFile", desc := "(I)Z" } : Jvm.MethodName) "FileBuilder"), (Jvm.Cond.methodLinkNest "FileBuilder" (237 : Nat) ({ cls := "FileBuilder$Readings", name := "forget", desc := "()V" } : Jvm.MethodName) "FileBuilder"), (Jvm.Cond.methodLinkNest "FileBuilder" (240 : Nat) ({ cls := "FileBuilder$Build", name := "forget", desc := "()V" } : Jvm.MethodName) "FileBuilder")]
theorem xNT_ok : ∀ w ∈ xNT, xIsN w = true := by
  have h : xNT.all xIsN = true := by decide +kernel
  exact List.all_eq_true.mp h
theorem xNT_in : ∀ w ∈ xNT, w ∈ tables_1 := by
  have h : xNT = [27, 32, 34, 37, 50, 57, 60, 62, 64, 66, 82, 87, 89, 98, 106, 108, 110, 112, 124, 129, 131, 133, 135, 169, 177, 185, 209, 221, 225, 251, 252, 253, 254, 255, 256, 257, 320, 334, 345, 349, 358, 365, 369, 371, 412, 417, 432, 446, 460, 472, 473, 483, 497, 503, 512, 517, 526, 530, 538, 570, 575, 579, 618, 635, 646, 651, 655].filterMap (fun i => tables_1[i]?) := by decide +kernel
  intro w hw
  rw [h] at hw
  obtain ⟨i, -, hi⟩ := List.mem_filterMap.mp hw
  exact List.mem_of_getElem? hi
def xSR : List (String × Nat × String) := [("FileBuilder", 67, "no such command, flags or pool"), ("FileBuilder", 82, "twelve edges, or a build is under way"), ("FileBuilder", 95, "no such edge, kind or file"), ("FileBuilder", 101, "no such link now"), ("FileBuilder", 110, "no such edge or file, or a phony"), ("FileBuilder", 122, "a build is under way, or the file is made, or it is so"), ("FileBuilder", 128, "no such edge or command"), ("FileBuilder", 245, "a build is under way"), ("FileBuilder", 133, "no such pool or depth"), ("FileBuilder", 138, "no such file, or a phony makes it"), ("FileBuilder", 144, "no such file"), ("FileBuilder", 151, "the file is not there"), ("FileBuilder", 159, "no such targets, jobs or fail"), ("FileBuilder", 170, "a cycle"), ("FileBuilder", 179, "a file is missing"), ("FileBuilder", 199, "the edge does not run"), ("FileBuilder", 247, "no such edge"), ("FileBuilder", 224, "no such what"), ("FileBuilder", 232, "fewer bytes than none")]
def xMA (U : State) : Prop := ∃ (comp c : ClassId) (k : Class), U.vm.findClass "[I" = some comp ∧ U.vm.findClass "[[I" = some c ∧ U.vm.classes[c]? = some k ∧ k.kind = .array comp (.array .int)
theorem xMA.moved {u U : State} (hvm : u.vm.Alike U.vm) (h : xMA u) : xMA U := by
  obtain ⟨comp, c, k, h1, h2, h3, h4⟩ := h
  obtain ⟨k', hk', he⟩ := hvm.2.2 _ _ h3
  exact ⟨comp, c, k', by rw [hvm.findClass]; exact h1, by rw [hvm.findClass]; exact h2, hk', by rw [he]; exact h4⟩
def xAmb (U : State) : Prop := (∀ w ∈ xNT, va_Nw w U) ∧ (∀ q ∈ xSR, ∃ a, vk_R q.1 q.2.1 q.2.2 a U) ∧ va_Nc "java/util/NoSuchElementException" "java/lang/IllegalArgumentException" U ∧ va_Nc "java/util/NoSuchElementException" "java/lang/IllegalStateException" U ∧ va_Nc "java/util/NoSuchElementException" "java/lang/UnsupportedOperationException" U ∧ xMA U
theorem xAmb.warm {s U : State} (hW : s.WarmedH U.vm) (h : xAmb s) : xAmb U := by
  obtain ⟨h1, h2, h3, h4, h5, h6⟩ := h
  refine ⟨fun w hw => ?_, fun q hq => ?_, va_Nc.moved hW.alike h3, va_Nc.moved hW.alike h4, va_Nc.moved hW.alike h5, xMA.moved hW.alike h6⟩
  · have g1 := h1 w hw
    have g2 := xNT_ok w hw
    cases w <;> first | exact va_Nw.warmF hW g1 | exact va_Nw.warmM hW g1 | exact va_Nw.warmD hW g1 | exact va_Nw.warmC hW g1 | exact absurd g2 Bool.false_ne_true
  · obtain ⟨a, ha⟩ := h2 q hq
    exact ⟨a, vk_R.warm hW ha⟩
/-- a static field of Throwable that holds a reference or null -/
def xSt (n d : String) (U : State) (H : Heap) : Prop := ∃ (c : ClassId) (k : Class) (i : Nat) (f : Field) (a : Nat) (cell : Cell) (v : Value), U.vm.findClass Bundle.tN = some c ∧ U.fieldFound? Bundle.tN n d = some (c, k, i, f) ∧ f.isStatic = true ∧ k.statics = some a ∧ H[a]? = some cell ∧ cell.vm.isStatics = true ∧ cell.cls = c ∧ f.slot < cell.slots.size ∧ k.staticTypes[f.slot]? = some f.type ∧ cell.slots[f.slot]? = some v ∧ v.isRef = true
theorem xSt.next {n d : String} {s U : State} {A : Nat → Prop} {H H1 : Heap} (h : xSt n d s H) (hq : ∀ q, q < H.size → ¬ A q → H1[q]? = H[q]?) (hAs : ∀ q, A q → ∀ cell, H[q]? = some cell → cell.vm.isStatics = false) (hvm : s.vm.Alike U.vm) : xSt n d U H1 := by
  obtain ⟨c, k, i, f, a, cell, v, h1, h2, h3, h4, h5, h6, h7, h8, h9, h10, h11⟩ := h
  obtain ⟨k', hi', hek⟩ := State.fieldFound?_setVm hvm h2
  have hnA : ¬ A a := fun hA => by
    have := hAs a hA cell h5
    rw [h6] at this
    cases this
  exact ⟨c, k', i, f, a, cell, v, by rw [hvm.findClass]; exact h1, hi', h3, by rw [hek]; exact h4, by rw [hq a (Array.getElem?_eq_some_iff.mp h5).1 hnA]; exact h5, h6, h7, h8, by rw [hek]; exact h9, h10, h11⟩
theorem xSt.lays {n d : String} {s : State} {args : Array Value} (h : xSt n d s s.heap) : (Cond.laysStatic Bundle.tN n d).before args s = true := by
  obtain ⟨c, k, i, f, a, cell, v, h1, h2, h3, h4, h5, h6, h7, h8, h9, -⟩ := h
  show (Cond.laysStatic Bundle.tN n d).holds args s none s [] = true
  exact Cond.laysStatic_of h1 h2 h3 h4 h5 h6 h7 h8 h9
theorem xSt.ref {n d : String} {s : State} {args : Array Value} (h : xSt n d s s.heap) : (Cond.isRef (.static Bundle.tN n d)).before args s = true := by
  obtain ⟨c, k, i, f, a, cell, v, h1, h2, h3, h4, h5, h6, h7, h8, h9, h10, h11⟩ := h
  have he : (Term.static Bundle.tN n d).eval args s none [] s = some v := by
    simp [Term.eval, State.fieldNamed?, h2, h3, h4, h5, h6, h10]
  simp only [Cond.before, Cond.holds, Cond.value, he]
  cases v <;> simp_all [Value.isRef]
theorem xSt.of {n d : String} {s : State} {args : Array Value} (hl : (Cond.laysStatic Bundle.tN n d).before args s = true) (hr : (Cond.isRef (.static Bundle.tN n d)).before args s = true) : xSt n d s s.heap := by
  obtain ⟨c, k, i, f, a, cell, h1, h2, h3, h4, h5, h6, h7, h8, h9⟩ := Cond.laysStatic_spec hl
  obtain ⟨u, hu⟩ := Cond.staticRefV h2 h3 h4 h5 h6 hr
  exact ⟨c, k, i, f, a, cell, u.v, h1, h2, h3, h4, h5, h6, h7, h8, h9, hu, u.2⟩
def xTh (U : State) (H : Heap) : Prop := xSt "UNASSIGNED_STACK" Bundle.steD U H ∧ xSt "SUPPRESSED_SENTINEL" Bundle.listD U H
theorem xTh.next {s U : State} {A : Nat → Prop} {H H1 : Heap} (h : xTh s H) (hq : ∀ q, q < H.size → ¬ A q → H1[q]? = H[q]?) (hAs : ∀ q, A q → ∀ cell, H[q]? = some cell → cell.vm.isStatics = false) (hvm : s.vm.Alike U.vm) : xTh U H1 := ⟨h.1.next hq hAs hvm, h.2.next hq hAs hvm⟩
/-- the words of a throw: good ones, and four that speak of the heap -/
def xHW : List Cond := [.isRef (.static Bundle.tN "UNASSIGNED_STACK" Bundle.steD), .isRef (.static Bundle.tN "SUPPRESSED_SENTINEL" Bundle.listD), .laysStatic Bundle.tN "UNASSIGNED_STACK" Bundle.steD, .laysStatic Bundle.tN "SUPPRESSED_SENTINEL" Bundle.listD]
theorem xTh.words {s : State} {args : Array Value} (h : xTh s s.heap) : ∀ w ∈ xHW, w.before args s = true := by
  intro w hw
  simp only [xHW, List.mem_cons, List.not_mem_nil, or_false] at hw
  rcases hw with rfl | rfl | rfl | rfl
  · exact h.1.ref
  · exact h.2.ref
  · exact h.1.lays
  · exact h.2.lays
end
section
/-! the forms of my contracts: worlds ahead and behind, and what surrounds every call (xAmb, of the part before) -/
theorem xAs {s : State} {D : va_G} {cl : List vw_C} {ws : va_W} {A : Nat → Prop} (hAe : va_A ws s.heap.size = A) (hP : va_P D cl ws s.heap) : ∀ q, A q → ∀ cell, s.heap[q]? = some cell → cell.vm.isStatics = false := by
  intro q h cell hc
  rw [← hAe] at h
  rcases h with ⟨k, e, hk⟩ | h
  · have h1 := hP k _ hk
    cases e with
    | inl x =>
      have h2 : s.heap[q]? = some (vp_cell x.1 x.2) := h1
      cases hc.symm.trans h2
      obtain ⟨cA, n, f | f | f | f | f⟩ := x <;> rfl
    | inr o =>
      obtain ⟨r, -, cell', g1, -, g3, -⟩ := h1
      cases hc.symm.trans g1
      rw [g3]
      rfl
  · have : s.heap[q]? = none := Array.getElem?_eq_none h
    rw [this] at hc
    cases hc
def xPc (D : va_G) (cl : List vw_C) (av : List Value) (sz : Nat) (tys : List (ClassId × FieldType)) (ws : va_W) : Array Value → State → Prop :=
  va_Pc av (fun U => U.heap.size = sz ∧ va_P D cl ws U.heap ∧ va_K D cl tys U ∧ va_D (fun _ => True) ws ∧ xAmb U ∧ xTh U U.heap)
theorem xP_blind {D : va_G} {cl : List vw_C} {av : List Value} {sz : Nat} {tys : List (ClassId × FieldType)} {ws : va_W} : FrameBlind (xPc D cl av sz tys ws) := fun a U g mk q => by
  obtain ⟨q0, q1, qP, qK, qD, qA, qT⟩ := q
  exact ⟨q0, q1, qP, va_K.moved (u := U) (U := U.calling g mk a) (Vm.Alike.refl U.vm) qK, qD, xAmb.warm (s := U) (U := U.calling g mk a) (State.WarmedH.refl U) qA, xTh.next (s := U) (U := U.calling g mk a) (A := fun _ => False) (H1 := U.heap) qT (fun _ _ _ => rfl) (fun _ h => h.elim) (Vm.Alike.refl U.vm)⟩
theorem xP_S {s : State} {H : Heap} {A : Nat → Prop} {locs : List Loc} {D : va_G} {cl : List vw_C} {av : List Value} {tys : List (ClassId × FieldType)} {ws : va_W} (hP : va_P D cl ws H) (hK : va_K D cl tys s) (hD : va_D A ws) (hAm : xAmb s) (hTh : xTh s s.heap) (hAs : ∀ q, A q → ∀ cell, s.heap[q]? = some cell → cell.vm.isStatics = false) (hS : va_S A s.heap H locs) : PreS s H (xPc D cl av H.size tys ws) av :=
  ⟨xP_blind, fun U hU hW => ⟨rfl, by rw [hU], by rw [hU]; exact hP, va_K.moved hW.alike hK, hD.weaken (fun _ _ _ _ => trivial), xAmb.warm hW hAm, by rw [hU]; exact xTh.next hTh hS.2.1 hAs hW.alike⟩⟩
theorem xP_V {s : State} {H : Heap} {A : Nat → Prop} {locs : List Loc} {D : va_G} {cl : List vw_C} {C : String} {b : Addr} {As : List Value} {tys : List (ClassId × FieldType)} {ws : va_W} (hr : ∃ cellB : Cell, H[b]? = some cellB ∧ cellB.vm.isStatics = false ∧ s.vm.findClass C = some cellB.cls) (hP : va_P D cl ws H) (hK : va_K D cl tys s) (hD : va_D A ws) (hAm : xAmb s) (hTh : xTh s s.heap) (hAs : ∀ q, A q → ∀ cell, s.heap[q]? = some cell → cell.vm.isStatics = false) (hS : va_S A s.heap H locs) : PreV s H C b (xPc D cl (.ref b :: As) H.size tys ws) As :=
  ⟨xP_blind, hr, fun U hU hW => ⟨rfl, by rw [hU], by rw [hU]; exact hP, va_K.moved hW.alike hK, hD.weaken (fun _ _ _ _ => trivial), xAmb.warm hW hAm, by rw [hU]; exact xTh.next hTh hS.2.1 hAs hW.alike⟩⟩
abbrev xBh (D : va_G) (cl : List vw_C) (A : Nat → Prop) {S : Type} (w1 : S → va_W) (t1 : S → List (ClassId × FieldType)) : S → State → Prop := fun u t => va_P D cl (w1 u) t.heap ∧ va_K D cl (t1 u) t ∧ va_D A (w1 u)
def xMi (l : Launch) (y : MethodName) (wy : List Cond) (rm : Room) (D : va_G) (cl : List vw_C) (av : List Value) (sz : Nat) (tys : List (ClassId × FieldType)) (ws : va_W) {S : Type} (post : Int32 → S → Prop) (w1 : S → va_W) (t1 : S → List (ClassId × FieldType)) : Prop :=
  Met l y wy rm (xPc D cl av sz tys ws) (va_Qi post (xBh D cl (va_A ws sz) w1 t1) (va_A ws sz)) rm.cells rm.slots (va_A ws sz)
def xMv (l : Launch) (y : MethodName) (wy : List Cond) (rm : Room) (D : va_G) (cl : List vw_C) (av : List Value) (sz : Nat) (tys : List (ClassId × FieldType)) (ws : va_W) {S : Type} (post : S → Prop) (w1 : S → va_W) (t1 : S → List (ClassId × FieldType)) : Prop :=
  Met l y wy rm (xPc D cl av sz tys ws) (va_Qv post (xBh D cl (va_A ws sz) w1 t1) (va_A ws sz)) rm.cells rm.slots (va_A ws sz)
def xMt (l : Launch) (y : MethodName) (wy : List Cond) (rm : Room) (D : va_G) (cl : List vw_C) (av : List Value) (sz : Nat) (tys : List (ClassId × FieldType)) (ws : va_W) (X : String) : Prop :=
  xt_Met l y wy rm (xPc D cl av sz tys ws) X rm.cells rm.slots (va_A ws sz)
/-- what a walk has of its own method -/
abbrev xB (p : Program) (s : State) (m : MethodId) (args : Array Value) (meth : Method) (c : Code) (cc : ByteArray) (nL : Nat) (Ts : List Cond) (own nm : String) (ret : Option FieldType) : Prop :=
  CallFix p m c cc nL s args Ts own ∧ meth.sig.returnType = ret ∧ meth.locks = false ∧ meth.name = nm ∧ c.exceptionTable.isEmpty = true
theorem xB_of {l : Launch} {y : MethodName} {ws ws' : List Cond} {rm : Room} {cc : ByteArray} {maxL : Nat} {ret : Option FieldType} (hw : ws = Cond.code y cc maxL ret :: ws')
    {p : Program} {e : Env} {s : State} {m : MethodId} {args : Array Value} {below : List Frame} {meth : Method} {c : Code} {s₁ : State} (B : BodyLoose p l y (headSpec ws rm) cc maxL ret e s m args below meth c s₁) (hml : c.maxLocals = maxL) :
    xB p s m args meth c cc maxL ws y.cls y.name ret := by
  have hts := atoms_spec (ws := ws) B.pre
  have hcd : (Cond.code y cc maxL ret).before args s = true := hts _ (by rw [hw]; exact List.mem_cons_self)
  exact ⟨⟨B.exec, B.bytes, hml, findClass_of_methodNamed B.named, hts⟩, B.returns, B.notSynchronized, (name_of_methodNamed B.named B.method).1, B.noHandlers hcd⟩
theorem xMi_of {l : Launch} {y : MethodName} {wy ws' : List Cond} {rm : Room} {cc : ByteArray} {maxL : Nat} {ret : Option FieldType} {D : va_G} {cl : List vw_C} {av : List Value} {sz : Nat} {tys : List (ClassId × FieldType)} {ws : va_W} {S : Type} {post : Int32 → S → Prop} {w1 : S → va_W} {t1 : S → List (ClassId × FieldType)}
    (hy : plainName y.cls = true) (hw : wy = Cond.code y cc maxL ret :: ws') (hav : (lg_sl av).length ≤ maxL)
    (body : ∀ (p : Program) (e : Env) (s : State) (m : MethodId) (args : Array Value) (below : List Frame) (meth : Method) (c : Code) (ls : Array Slot) (A : Nat → Prop), xB p s m args meth c cc maxL wy y.cls y.name ret → va_A ws s.heap.size = A → (∀ q, s.heap.size ≤ q → A q) → s.heap.size = sz → va_P D cl ws s.heap → va_K D cl tys s → va_D A ws → va_S A s.heap s.heap [] → xAmb s → xTh s s.heap → (∀ q, A q → ∀ cell, s.heap[q]? = some cell → cell.vm.isStatics = false) → lv_has ls maxL (lv_args 0 av) →
      W p l e rm s m args below meth c s.heap [] 0 0 (MQ below (va_Qi post (xBh D cl A w1 t1) A) args s rm.cells rm.slots A) (F0 m 0 ls [])) : xMi l y wy rm D cl av sz tys ws post w1 t1 := by
  refine Met.ofW (cc := cc) (maxL := maxL) (ret := ret) hy hw ?_
  intro p e s m args below meth c s₁ B hml hv
  obtain ⟨rfl, hsz, hP, hK, hD0, hAm, hTh⟩ := hv
  subst hsz
  have hl := lv_entry av (n := maxL) hav
  rw [lg_entry_eq]
  exact body p e s m _ below meth c _ _ (xB_of hw B hml) rfl (fun q h => Or.inr h) rfl hP hK hD0.self va_S.rf hAm hTh (xAs rfl hP) hl
theorem xMv_of {l : Launch} {y : MethodName} {wy ws' : List Cond} {rm : Room} {cc : ByteArray} {maxL : Nat} {ret : Option FieldType} {D : va_G} {cl : List vw_C} {av : List Value} {sz : Nat} {tys : List (ClassId × FieldType)} {ws : va_W} {S : Type} {post : S → Prop} {w1 : S → va_W} {t1 : S → List (ClassId × FieldType)}
    (hy : plainName y.cls = true) (hw : wy = Cond.code y cc maxL ret :: ws') (hav : (lg_sl av).length ≤ maxL)
    (body : ∀ (p : Program) (e : Env) (s : State) (m : MethodId) (args : Array Value) (below : List Frame) (meth : Method) (c : Code) (ls : Array Slot) (A : Nat → Prop), xB p s m args meth c cc maxL wy y.cls y.name ret → va_A ws s.heap.size = A → (∀ q, s.heap.size ≤ q → A q) → s.heap.size = sz → va_P D cl ws s.heap → va_K D cl tys s → va_D A ws → va_S A s.heap s.heap [] → xAmb s → xTh s s.heap → (∀ q, A q → ∀ cell, s.heap[q]? = some cell → cell.vm.isStatics = false) → lv_has ls maxL (lv_args 0 av) →
      W p l e rm s m args below meth c s.heap [] 0 0 (MQ below (va_Qv post (xBh D cl A w1 t1) A) args s rm.cells rm.slots A) (F0 m 0 ls [])) : xMv l y wy rm D cl av sz tys ws post w1 t1 := by
  refine Met.ofW (cc := cc) (maxL := maxL) (ret := ret) hy hw ?_
  intro p e s m args below meth c s₁ B hml hv
  obtain ⟨rfl, hsz, hP, hK, hD0, hAm, hTh⟩ := hv
  subst hsz
  have hl := lv_entry av (n := maxL) hav
  rw [lg_entry_eq]
  exact body p e s m _ below meth c _ _ (xB_of hw B hml) rfl (fun q h => Or.inr h) rfl hP hK hD0.self va_S.rf hAm hTh (xAs rfl hP) hl
theorem xMt_of {l : Launch} {y : MethodName} {wy ws' : List Cond} {rm : Room} {cc : ByteArray} {maxL : Nat} {ret : Option FieldType} {D : va_G} {cl : List vw_C} {av : List Value} {sz : Nat} {tys : List (ClassId × FieldType)} {ws : va_W} {X : String}
    (hy : plainName y.cls = true) (hw : wy = Cond.code y cc maxL ret :: ws') (hav : (lg_sl av).length ≤ maxL)
    (body : ∀ (p : Program) (e : Env) (s : State) (m : MethodId) (args : Array Value) (below : List Frame) (meth : Method) (c : Code) (ls : Array Slot) (A : Nat → Prop), xB p s m args meth c cc maxL wy y.cls y.name ret → va_A ws s.heap.size = A → (∀ q, s.heap.size ≤ q → A q) → s.heap.size = sz → va_P D cl ws s.heap → va_K D cl tys s → va_D A ws → va_S A s.heap s.heap [] → xAmb s → xTh s s.heap → (∀ q, A q → ∀ cell, s.heap[q]? = some cell → cell.vm.isStatics = false) → lv_has ls maxL (lv_args 0 av) →
      W p l e rm s m args below meth c s.heap [] 0 0 (xt_Q below X s rm.cells rm.slots A) (F0 m 0 ls [])) : xMt l y wy rm D cl av sz tys ws X := by
  refine xt_ofW (cc := cc) (maxL := maxL) (ret := ret) hy hw ?_
  intro p e s m args below meth c s₁ B hml hv
  obtain ⟨rfl, hsz, hP, hK, hD0, hAm, hTh⟩ := hv
  subst hsz
  have hl := lv_entry av (n := maxL) hav
  rw [lg_entry_eq]
  exact body p e s m _ below meth c _ _ (xB_of hw B hml) rfl (fun q h => Or.inr h) rfl hP hK hD0.self va_S.rf hAm hTh (xAs rfl hP) hl
section XR
variable {p : Program} {l : Launch} {e : Env} {R : Room} {s : State} {m : MethodId} {args : Array Value} {below : List Frame} {meth : Method} {c : Code} {H : Heap} {locs : List Loc} {cells slots : Nat} {Q : State → Prop}
variable {cc : ByteArray} {pc nL : Nat} {ls : Array Slot} {rest st0 : List Value} {A : Nat → Prop} {D : va_G} {cl : List vw_C} {Ts : List Cond} {own nm : String} {ret : Option FieldType} {mc ms : Nat}
theorem xri {S : Type} {post : Int32 → S → Prop} {w1 : S → va_W} {t1 : S → List (ClassId × FieldType)} {v : Int32} (u : S) (B : xB p s m args meth c cc nL Ts own nm (some .int)) (hd : decode cc pc = .ok (.ireturn, 1)) (hp : post v u) (hP : va_P D cl (w1 u) H) (hK : va_K D cl (t1 u) s) (hD : va_D A (w1 u)) (hS : va_S A s.heap H locs) (hc : cells ≤ mc) (hs : slots ≤ ms) :
    W p l e R s m args below meth c H locs cells slots (MQ below (va_Qi post (xBh D cl A w1 t1) A) args s mc ms A) (F0 m pc ls [.int v]) := by
  refine W.widen (k := mc) (n := ms) hc hs ?_
  exact W.iret B.1.1 B.1.2.1 B.2.1 (fun t ht hW => ⟨⟨v, u, rfl, hp, by rw [ht]; exact hP, va_K.moved hW.alike hK, hD⟩, hS.F ht⟩) hS.2.2 hd B.2.2.1
theorem xrz {S : Type} {post : Int32 → S → Prop} {w1 : S → va_W} {t1 : S → List (ClassId × FieldType)} {v : Int32} (u : S) (B : xB p s m args meth c cc nL Ts own nm (some .boolean)) (hd : decode cc pc = .ok (.ireturn, 1)) (hn : narrow .boolean (.int v) = .int v) (hp : post v u) (hP : va_P D cl (w1 u) H) (hK : va_K D cl (t1 u) s) (hD : va_D A (w1 u)) (hS : va_S A s.heap H locs) (hc : cells ≤ mc) (hs : slots ≤ ms) :
    W p l e R s m args below meth c H locs cells slots (MQ below (va_Qi post (xBh D cl A w1 t1) A) args s mc ms A) (F0 m pc ls [.int v]) := by
  refine W.widen (k := mc) (n := ms) hc hs ?_
  exact W.zret B.1.1 B.1.2.1 B.2.1 hn (fun t ht hW => ⟨⟨v, u, rfl, hp, by rw [ht]; exact hP, va_K.moved hW.alike hK, hD⟩, hS.F ht⟩) hS.2.2 hd B.2.2.1
theorem xrv {S : Type} {post : S → Prop} {w1 : S → va_W} {t1 : S → List (ClassId × FieldType)} (u : S) (B : xB p s m args meth c cc nL Ts own nm none) (hd : decode cc pc = .ok (.return_, 1)) (hp : post u) (hP : va_P D cl (w1 u) H) (hK : va_K D cl (t1 u) s) (hD : va_D A (w1 u)) (hS : va_S A s.heap H locs) (hc : cells ≤ mc) (hs : slots ≤ ms) :
    W p l e R s m args below meth c H locs cells slots (MQ below (va_Qv post (xBh D cl A w1 t1) A) args s mc ms A) (F0 m pc ls []) := by
  refine W.widen (k := mc) (n := ms) hc hs ?_
  exact W.vret B.1.1 B.1.2.1 B.2.1 (fun t ht hW => ⟨⟨u, rfl, hp, by rw [ht]; exact hP, va_K.moved hW.alike hK, hD⟩, hS.F ht⟩) hS.2.2 hd B.2.2.1
theorem xgi {S1 : Type} {post1 : Int32 → S1 → Prop} {w1 : S1 → va_W} {t1 : S1 → List (ClassId × FieldType)} {ws wsC wr : va_W} {tys : List (ClassId × FieldType)} {mc1 ms1 : Nat} {a : Array Value} {H0 : Heap}
    (hr : va_Run p l e R s m args below meth c H locs cells slots mc1 ms1 (F0 m pc ls st0) rest (va_Qi post1 (xBh D cl (va_A wsC H.size) w1 t1) (va_A wsC H.size) a) (va_A wsC H.size))
    (hP : va_P D cl ws H) (hD : va_D A ws) (hK : va_K D cl tys s) (hS : va_S A H0 H locs) (hA : ∀ q, H0.size ≤ q → A q)
    (isC isR : List Nat) (hC : isC.map (fun i => ws[i]?) = wsC.map some) (hR : isR.map (fun i => ws[i]?) = wr.map some) (hn : va_nd isR = true) (hdis : ∀ i ∈ isR, i ∉ isC)
    (kk : ∀ (r : Int32) (u : S1) (H1 : Heap) (locs1 : List Loc), post1 r u → va_P D cl (wr ++ w1 u) H1 → va_D A (wr ++ w1 u) → va_K D cl (tys ++ t1 u) s → va_S A H0 H1 locs1 → W p l e R s m args below meth c H1 locs1 (cells + mc1) (slots + ms1) Q (F0 m (pc + 3) ls (.int r :: rest))) :
    W p l e R s m args below meth c H locs cells slots Q (F0 m pc ls st0) := by
  have hFc := va_free hD hS hA isC hC
  refine va_calli hr hS (fun q _ h => hFc q h) hFc (fun r u t H1 locs1 ht hvm hp hB hz1 hk1 hS1 => ?_)
  obtain ⟨hP1, hK1, hD1⟩ := hB
  rw [ht] at hP1
  obtain ⟨hP2, hD2⟩ := va_join hP hD isC isR hC hR hn hdis hk1 hFc hP1 hD1
  exact kk r u H1 locs1 hp hP2 hD2 (hK.app (va_K.moved hvm.symm hK1)) hS1
theorem xgv {S1 : Type} {post1 : S1 → Prop} {w1 : S1 → va_W} {t1 : S1 → List (ClassId × FieldType)} {ws wsC wr : va_W} {tys : List (ClassId × FieldType)} {mc1 ms1 : Nat} {a : Array Value} {H0 : Heap}
    (hr : va_Run p l e R s m args below meth c H locs cells slots mc1 ms1 (F0 m pc ls st0) rest (va_Qv post1 (xBh D cl (va_A wsC H.size) w1 t1) (va_A wsC H.size) a) (va_A wsC H.size))
    (hP : va_P D cl ws H) (hD : va_D A ws) (hK : va_K D cl tys s) (hS : va_S A H0 H locs) (hA : ∀ q, H0.size ≤ q → A q)
    (isC isR : List Nat) (hC : isC.map (fun i => ws[i]?) = wsC.map some) (hR : isR.map (fun i => ws[i]?) = wr.map some) (hn : va_nd isR = true) (hdis : ∀ i ∈ isR, i ∉ isC)
    (kk : ∀ (u : S1) (H1 : Heap) (locs1 : List Loc), post1 u → va_P D cl (wr ++ w1 u) H1 → va_D A (wr ++ w1 u) → va_K D cl (tys ++ t1 u) s → va_S A H0 H1 locs1 → W p l e R s m args below meth c H1 locs1 (cells + mc1) (slots + ms1) Q (F0 m (pc + 3) ls rest)) :
    W p l e R s m args below meth c H locs cells slots Q (F0 m pc ls st0) := by
  have hFc := va_free hD hS hA isC hC
  refine va_callv hr hS (fun q _ h => hFc q h) hFc (fun u t H1 locs1 ht hvm hp hB hz1 hk1 hS1 => ?_)
  obtain ⟨hP1, hK1, hD1⟩ := hB
  rw [ht] at hP1
  obtain ⟨hP2, hD2⟩ := va_join hP hD isC isR hC hR hn hdis hk1 hFc hP1 hD1
  exact kk u H1 locs1 hp hP2 hD2 (hK.app (va_K.moved hvm.symm hK1)) hS1
end XR
end
section
/-! names: classes, fields, methods, words -/
def R_Bu : String := "FileBuilder$Build"
def F_Bu : u_T := fun k => match k with
  | 0 => ("FileBuilder$Build", "steps", "[I", true)
  | 1 => ("FileBuilder$Build", "jobs", "I", false)
  | 2 => ("FileBuilder$Build", "fail", "I", false)
  | _ => ("FileBuilder$Build", "stage", "I", false)
def t_Bu : Nat → FieldType := fun k => match k with
  | 0 => .array .int
  | 1 => .int
  | 2 => .int
  | _ => .int
theorem n_Bu : ∀ a, a < 4 → ∀ b, b < 4 → a ≠ b → (F_Bu a).2.1 ≠ (F_Bu b).2.1 := by decide +kernel
theorem o_Bu : ∀ k, k < 4 → parseFieldDescriptor (F_Bu k).2.2.1 = some (t_Bu k) := by decide +kernel
def R_Di : String := "FileBuilder$Disk"
def F_Di : u_T := fun k => match k with
  | 0 => ("FileBuilder$Disk", "contents", "[I", true)
  | 1 => ("FileBuilder$Disk", "times", "[I", true)
  | 2 => ("FileBuilder$Disk", "clock", "I", false)
  | _ => ("FileBuilder$Disk", "there", "I", false)
def t_Di : Nat → FieldType := fun k => match k with
  | 0 => .array .int
  | 1 => .array .int
  | 2 => .int
  | _ => .int
theorem n_Di : ∀ a, a < 4 → ∀ b, b < 4 → a ≠ b → (F_Di a).2.1 ≠ (F_Di b).2.1 := by decide +kernel
theorem o_Di : ∀ k, k < 4 → parseFieldDescriptor (F_Di k).2.2.1 = some (t_Di k) := by decide +kernel
def R_Gr : String := "FileBuilder$Graph"
def F_Gr : u_T := fun k => match k with
  | 0 => ("FileBuilder$Graph", "commands", "[I", true)
  | 1 => ("FileBuilder$Graph", "flags", "[I", true)
  | 2 => ("FileBuilder$Graph", "pools", "[I", true)
  | 3 => ("FileBuilder$Graph", "readBy", "[I", true)
  | 4 => ("FileBuilder$Graph", "links", "[[I", true)
  | _ => ("FileBuilder$Graph", "count", "I", false)
def t_Gr : Nat → FieldType := fun k => match k with
  | 0 => .array .int
  | 1 => .array .int
  | 2 => .array .int
  | 3 => .array .int
  | 4 => .array (.array .int)
  | _ => .int
theorem n_Gr : ∀ a, a < 6 → ∀ b, b < 6 → a ≠ b → (F_Gr a).2.1 ≠ (F_Gr b).2.1 := by decide +kernel
theorem o_Gr : ∀ k, k < 6 → parseFieldDescriptor (F_Gr k).2.2.1 = some (t_Gr k) := by decide +kernel
def R_Re : String := "FileBuilder$Readings"
def F_Re : u_T := fun k => match k with
  | 0 => ("FileBuilder$Readings", "recorded", "[I", true)
  | _ => ("FileBuilder$Readings", "known", "[Z", true)
def t_Re : Nat → FieldType := fun k => match k with
  | 0 => .array .int
  | _ => .array .boolean
theorem n_Re : ∀ a, a < 2 → ∀ b, b < 2 → a ≠ b → (F_Re a).2.1 ≠ (F_Re b).2.1 := by decide +kernel
theorem o_Re : ∀ k, k < 2 → parseFieldDescriptor (F_Re k).2.2.1 = some (t_Re k) := by decide +kernel
def R_RL : String := "FileBuilder$RecordLog"
def F_RL : u_T := fun k => match k with
  | 0 => ("FileBuilder$RecordLog", "bytes", "[I", true)
  | 1 => ("FileBuilder$RecordLog", "commands", "[I", true)
  | 2 => ("FileBuilder$RecordLog", "times", "[I", true)
  | _ => ("FileBuilder$RecordLog", "length", "I", false)
def t_RL : Nat → FieldType := fun k => match k with
  | 0 => .array .int
  | 1 => .array .int
  | 2 => .array .int
  | _ => .int
theorem n_RL : ∀ a, a < 4 → ∀ b, b < 4 → a ≠ b → (F_RL a).2.1 ≠ (F_RL b).2.1 := by decide +kernel
theorem o_RL : ∀ k, k < 4 → parseFieldDescriptor (F_RL k).2.2.1 = some (t_RL k) := by decide +kernel
def R_FB : String := "FileBuilder"
def F_FB : u_T := fun k => match k with
  | 0 => ("FileBuilder", "disk", "LFileBuilder$Disk;", true)
  | 1 => ("FileBuilder", "graph", "LFileBuilder$Graph;", true)
  | 2 => ("FileBuilder", "readings", "LFileBuilder$Readings;", true)
  | 3 => ("FileBuilder", "records", "LFileBuilder$RecordLog;", true)
  | 4 => ("FileBuilder", "build", "LFileBuilder$Build;", true)
  | _ => ("FileBuilder", "depths", "[I", true)
def t_FB : Nat → FieldType := fun k => match k with
  | 0 => .object "FileBuilder$Disk"
  | 1 => .object "FileBuilder$Graph"
  | 2 => .object "FileBuilder$Readings"
  | 3 => .object "FileBuilder$RecordLog"
  | 4 => .object "FileBuilder$Build"
  | _ => .array .int
theorem n_FB : ∀ a, a < 6 → ∀ b, b < 6 → a ≠ b → (F_FB a).2.1 ≠ (F_FB b).2.1 := by decide +kernel
theorem o_FB : ∀ k, k < 6 → parseFieldDescriptor (F_FB k).2.2.1 = some (t_FB k) := by decide +kernel
def R_Mo : String := "FileBuilderModel"
def F_Mo : u_T := fun k => match k with
  | 0 => ("FileBuilderModel", "code", "I", false)
  | 1 => ("FileBuilderModel", "many", "I", false)
  | 2 => ("FileBuilderModel", "command", "[I", true)
  | 3 => ("FileBuilderModel", "flags", "[I", true)
  | 4 => ("FileBuilderModel", "pool", "[I", true)
  | 5 => ("FileBuilderModel", "outputs", "[I", true)
  | 6 => ("FileBuilderModel", "links", "[I", true)
  | 7 => ("FileBuilderModel", "reads", "[I", true)
  | 8 => ("FileBuilderModel", "recorded", "[I", true)
  | 9 => ("FileBuilderModel", "known", "[Z", true)
  | 10 => ("FileBuilderModel", "step", "[I", true)
  | 11 => ("FileBuilderModel", "clock", "I", false)
  | 12 => ("FileBuilderModel", "content", "[I", true)
  | 13 => ("FileBuilderModel", "time", "[I", true)
  | 14 => ("FileBuilderModel", "maker", "[I", true)
  | 15 => ("FileBuilderModel", "logs", "[Z", true)
  | 16 => ("FileBuilderModel", "logged", "[I", true)
  | 17 => ("FileBuilderModel", "newestLogged", "[I", true)
  | 18 => ("FileBuilderModel", "size", "I", false)
  | 19 => ("FileBuilderModel", "log", "[I", true)
  | 20 => ("FileBuilderModel", "depthOne", "I", false)
  | 21 => ("FileBuilderModel", "depthTwo", "I", false)
  | 22 => ("FileBuilderModel", "reached", "I", false)
  | 23 => ("FileBuilderModel", "order", "[I", true)
  | 24 => ("FileBuilderModel", "newest", "[I", true)
  | 25 => ("FileBuilderModel", "marks", "[Z", true)
  | 26 => ("FileBuilderModel", "jobs", "I", false)
  | 27 => ("FileBuilderModel", "fail", "I", false)
  | 28 => ("FileBuilderModel", "begun", "Z", false)
  | _ => ("FileBuilderModel", "under", "Z", false)
def t_Mo : Nat → FieldType := fun k => match k with
  | 0 => .int
  | 1 => .int
  | 2 => .array .int
  | 3 => .array .int
  | 4 => .array .int
  | 5 => .array .int
  | 6 => .array .int
  | 7 => .array .int
  | 8 => .array .int
  | 9 => .array .boolean
  | 10 => .array .int
  | 11 => .int
  | 12 => .array .int
  | 13 => .array .int
  | 14 => .array .int
  | 15 => .array .boolean
  | 16 => .array .int
  | 17 => .array .int
  | 18 => .int
  | 19 => .array .int
  | 20 => .int
  | 21 => .int
  | 22 => .int
  | 23 => .array .int
  | 24 => .array .int
  | 25 => .array .boolean
  | 26 => .int
  | 27 => .int
  | 28 => .boolean
  | _ => .boolean
theorem n_Mo : ∀ a, a < 30 → ∀ b, b < 30 → a ≠ b → (F_Mo a).2.1 ≠ (F_Mo b).2.1 := by decide +kernel
theorem o_Mo : ∀ k, k < 30 → parseFieldDescriptor (F_Mo k).2.2.1 = some (t_Mo k) := by decide +kernel
def R_La : String := "FileBuilderLaw"
def R_Ar : String := "java/util/Arrays"
abbrev cl : List vw_C := [(R_Bu, F_Bu, 4), (R_Di, F_Di, 4), (R_Gr, F_Gr, 6), (R_Re, F_Re, 2), (R_RL, F_RL, 4), (R_FB, F_FB, 6), (R_Mo, F_Mo, 30)]
abbrev b_FB_init : ByteArray := prog_1_method_1_code
def y_FB_init : MethodName := ⟨R_FB, "<init>", "()V"⟩
abbrev b_FB_edge : ByteArray := prog_1_method_2_code
def y_FB_edge : MethodName := ⟨R_FB, "edge", "(III)I"⟩
abbrev b_FB_link : ByteArray := prog_1_method_3_code
def y_FB_link : MethodName := ⟨R_FB, "link", "(III)V"⟩
abbrev b_FB_reads : ByteArray := prog_1_method_4_code
def y_FB_reads : MethodName := ⟨R_FB, "reads", "(IIZ)V"⟩
abbrev b_FB_command : ByteArray := prog_1_method_5_code
def y_FB_command : MethodName := ⟨R_FB, "command", "(II)V"⟩
abbrev b_FB_pool : ByteArray := prog_1_method_6_code
def y_FB_pool : MethodName := ⟨R_FB, "pool", "(II)V"⟩
abbrev b_FB_write : ByteArray := prog_1_method_7_code
def y_FB_write : MethodName := ⟨R_FB, "write", "(II)V"⟩
abbrev b_FB_remove : ByteArray := prog_1_method_8_code
def y_FB_remove : MethodName := ⟨R_FB, "remove", "(I)V"⟩
abbrev b_FB_begin : ByteArray := prog_1_method_9_code
def y_FB_begin : MethodName := ⟨R_FB, "begin", "(III)I"⟩
abbrev b_FB_start : ByteArray := prog_1_method_10_code
def y_FB_start : MethodName := ⟨R_FB, "start", "()I"⟩
abbrev b_FB_finish : ByteArray := prog_1_method_11_code
def y_FB_finish : MethodName := ⟨R_FB, "finish", "(IZ)I"⟩
abbrev b_FB_state : ByteArray := prog_1_method_12_code
def y_FB_state : MethodName := ⟨R_FB, "state", "()I"⟩
abbrev b_FB_about : ByteArray := prog_1_method_13_code
def y_FB_about : MethodName := ⟨R_FB, "about", "(I)I"⟩
abbrev b_FB_file : ByteArray := prog_1_method_14_code
def y_FB_file : MethodName := ⟨R_FB, "file", "(II)I"⟩
abbrev b_FB_commandOf : ByteArray := prog_1_method_15_code
def y_FB_commandOf : MethodName := ⟨R_FB, "commandOf", "(I)I"⟩
abbrev b_FB_log : ByteArray := prog_1_method_16_code
def y_FB_log : MethodName := ⟨R_FB, "log", "(I)I"⟩
abbrev b_FB_cut : ByteArray := prog_1_method_17_code
def y_FB_cut : MethodName := ⟨R_FB, "cut", "(I)I"⟩
abbrev b_FB_spoil : ByteArray := prog_1_method_18_code
def y_FB_spoil : MethodName := ⟨R_FB, "spoil", "(II)Z"⟩
abbrev b_FB_isIn : ByteArray := prog_1_method_19_code
def y_FB_isIn : MethodName := ⟨R_FB, "isIn", "(III)Z"⟩
abbrev b_FB_isFile : ByteArray := prog_1_method_20_code
def y_FB_isFile : MethodName := ⟨R_FB, "isFile", "(I)Z"⟩
abbrev b_FB_isCommand : ByteArray := prog_1_method_21_code
def y_FB_isCommand : MethodName := ⟨R_FB, "isCommand", "(I)Z"⟩
abbrev b_FB_areFlags : ByteArray := prog_1_method_22_code
def y_FB_areFlags : MethodName := ⟨R_FB, "areFlags", "(I)Z"⟩
abbrev b_FB_has : ByteArray := prog_1_method_23_code
def y_FB_has : MethodName := ⟨R_FB, "has", "(II)Z"⟩
abbrev b_FB_mix : ByteArray := prog_1_method_24_code
def y_FB_mix : MethodName := ⟨R_FB, "mix", "(II)I"⟩
abbrev b_FB_refuseUnderWay : ByteArray := prog_1_method_25_code
def y_FB_refuseUnderWay : MethodName := ⟨R_FB, "refuseUnderWay", "()V"⟩
abbrev b_FB_refuseUnknownEdge : ByteArray := prog_1_method_26_code
def y_FB_refuseUnknownEdge : MethodName := ⟨R_FB, "refuseUnknownEdge", "(I)V"⟩
abbrev b_FB_mayBecomeOutput : ByteArray := prog_1_method_27_code
def y_FB_mayBecomeOutput : MethodName := ⟨R_FB, "mayBecomeOutput", "(II)Z"⟩
abbrev b_FB_isMissing : ByteArray := prog_1_method_28_code
def y_FB_isMissing : MethodName := ⟨R_FB, "isMissing", "(I)Z"⟩
abbrev b_FB_findWhatIsToRun : ByteArray := prog_1_method_29_code
def y_FB_findWhatIsToRun : MethodName := ⟨R_FB, "findWhatIsToRun", "(I)V"⟩
abbrev b_FB_isOutOfDate : ByteArray := prog_1_method_30_code
def y_FB_isOutOfDate : MethodName := ⟨R_FB, "isOutOfDate", "(I)Z"⟩
abbrev b_FB_isUnknownToLog : ByteArray := prog_1_method_31_code
def y_FB_isUnknownToLog : MethodName := ⟨R_FB, "isUnknownToLog", "(I)Z"⟩
abbrev b_FB_isOlderThan : ByteArray := prog_1_method_32_code
def y_FB_isOlderThan : MethodName := ⟨R_FB, "isOlderThan", "(II)Z"⟩
abbrev b_FB_newest : ByteArray := prog_1_method_33_code
def y_FB_newest : MethodName := ⟨R_FB, "newest", "(I)I"⟩
abbrev b_FB_isMadeByPending : ByteArray := prog_1_method_34_code
def y_FB_isMadeByPending : MethodName := ⟨R_FB, "isMadeByPending", "(I)Z"⟩
abbrev b_FB_nextToBegin : ByteArray := prog_1_method_35_code
def y_FB_nextToBegin : MethodName := ⟨R_FB, "nextToBegin", "()I"⟩
abbrev b_FB_hasRoomInPool : ByteArray := prog_1_method_36_code
def y_FB_hasRoomInPool : MethodName := ⟨R_FB, "hasRoomInPool", "(I)Z"⟩
abbrev b_FB_settle : ByteArray := prog_1_method_37_code
def y_FB_settle : MethodName := ⟨R_FB, "settle", "()V"⟩
abbrev b_FB_endWell : ByteArray := prog_1_method_38_code
def y_FB_endWell : MethodName := ⟨R_FB, "endWell", "(I)V"⟩
abbrev b_FB_writeOutputs : ByteArray := prog_1_method_39_code
def y_FB_writeOutputs : MethodName := ⟨R_FB, "writeOutputs", "(I)V"⟩
abbrev b_FB_mixOfWhatIsRead : ByteArray := prog_1_method_40_code
def y_FB_mixOfWhatIsRead : MethodName := ⟨R_FB, "mixOfWhatIsRead", "(I)I"⟩
abbrev b_FB_letGo : ByteArray := prog_1_method_41_code
def y_FB_letGo : MethodName := ⟨R_FB, "letGo", "()I"⟩
abbrev b_Mo_init : ByteArray := prog_8_method_1_code
def y_Mo_init : MethodName := ⟨R_Mo, "<init>", "()V"⟩
abbrev b_Mo_thrown : ByteArray := prog_8_method_2_code
def y_Mo_thrown : MethodName := ⟨R_Mo, "thrown", "()I"⟩
abbrev b_Mo_refuse : ByteArray := prog_8_method_3_code
def y_Mo_refuse : MethodName := ⟨R_Mo, "refuse", "(I)I"⟩
abbrev b_Mo_outside : ByteArray := prog_8_method_4_code
def y_Mo_outside : MethodName := ⟨R_Mo, "outside", "(III)Z"⟩
abbrev b_Mo_in : ByteArray := prog_8_method_5_code
def y_Mo_in : MethodName := ⟨R_Mo, "in", "(II)Z"⟩
abbrev b_Mo_mix : ByteArray := prog_8_method_6_code
def y_Mo_mix : MethodName := ⟨R_Mo, "mix", "(II)I"⟩
abbrev b_Mo_isEdge : ByteArray := prog_8_method_7_code
def y_Mo_isEdge : MethodName := ⟨R_Mo, "isEdge", "(I)Z"⟩
abbrev b_Mo_isFile : ByteArray := prog_8_method_8_code
def y_Mo_isFile : MethodName := ⟨R_Mo, "isFile", "(I)Z"⟩
abbrev b_Mo_is : ByteArray := prog_8_method_9_code
def y_Mo_is : MethodName := ⟨R_Mo, "is", "(II)Z"⟩
abbrev b_Mo_needs : ByteArray := prog_8_method_10_code
def y_Mo_needs : MethodName := ⟨R_Mo, "needs", "(I)I"⟩
abbrev b_Mo_waits : ByteArray := prog_8_method_11_code
def y_Mo_waits : MethodName := ⟨R_Mo, "waits", "(I)I"⟩
abbrev b_Mo_edge : ByteArray := prog_8_method_12_code
def y_Mo_edge : MethodName := ⟨R_Mo, "edge", "(III)I"⟩
abbrev b_Mo_link : ByteArray := prog_8_method_13_code
def y_Mo_link : MethodName := ⟨R_Mo, "link", "(III)V"⟩
abbrev b_Mo_reads : ByteArray := prog_8_method_14_code
def y_Mo_reads : MethodName := ⟨R_Mo, "reads", "(IIZ)V"⟩
abbrev b_Mo_command : ByteArray := prog_8_method_15_code
def y_Mo_command : MethodName := ⟨R_Mo, "command", "(II)V"⟩
abbrev b_Mo_pool : ByteArray := prog_8_method_16_code
def y_Mo_pool : MethodName := ⟨R_Mo, "pool", "(II)V"⟩
abbrev b_Mo_byPhony : ByteArray := prog_8_method_17_code
def y_Mo_byPhony : MethodName := ⟨R_Mo, "byPhony", "(I)Z"⟩
abbrev b_Mo_put : ByteArray := prog_8_method_18_code
def y_Mo_put : MethodName := ⟨R_Mo, "put", "(II)V"⟩
abbrev b_Mo_write : ByteArray := prog_8_method_19_code
def y_Mo_write : MethodName := ⟨R_Mo, "write", "(II)V"⟩
abbrev b_Mo_remove : ByteArray := prog_8_method_20_code
def y_Mo_remove : MethodName := ⟨R_Mo, "remove", "(I)V"⟩
abbrev b_Mo_newestOf : ByteArray := prog_8_method_21_code
def y_Mo_newestOf : MethodName := ⟨R_Mo, "newestOf", "(I)I"⟩
abbrev b_Mo_findNewest : ByteArray := prog_8_method_22_code
def y_Mo_findNewest : MethodName := ⟨R_Mo, "findNewest", "()V"⟩
abbrev b_Mo_open : ByteArray := prog_8_method_23_code
def y_Mo_open : MethodName := ⟨R_Mo, "open", "(I)Z"⟩
abbrev b_Mo_any : ByteArray := prog_8_method_24_code
def y_Mo_any : MethodName := ⟨R_Mo, "any", "(I)Z"⟩
abbrev b_Mo_markPhonies : ByteArray := prog_8_method_25_code
def y_Mo_markPhonies : MethodName := ⟨R_Mo, "markPhonies", "(Z)V"⟩
abbrev b_Mo_old : ByteArray := prog_8_method_26_code
def y_Mo_old : MethodName := ⟨R_Mo, "old", "(II)Z"⟩
abbrev b_Mo_outOfDate : ByteArray := prog_8_method_27_code
def y_Mo_outOfDate : MethodName := ⟨R_Mo, "outOfDate", "(I)Z"⟩
abbrev b_Mo_makersOf : ByteArray := prog_8_method_28_code
def y_Mo_makersOf : MethodName := ⟨R_Mo, "makersOf", "(I)I"⟩
abbrev b_Mo_isMissing : ByteArray := prog_8_method_29_code
def y_Mo_isMissing : MethodName := ⟨R_Mo, "isMissing", "(I)Z"⟩
abbrev b_Mo_reach : ByteArray := prog_8_method_30_code
def y_Mo_reach : MethodName := ⟨R_Mo, "reach", "(I)I"⟩
abbrev b_Mo_lay : ByteArray := prog_8_method_31_code
def y_Mo_lay : MethodName := ⟨R_Mo, "lay", "(I)Z"⟩
abbrev b_Mo_begin : ByteArray := prog_8_method_32_code
def y_Mo_begin : MethodName := ⟨R_Mo, "begin", "(III)I"⟩
abbrev b_Mo_count : ByteArray := prog_8_method_33_code
def y_Mo_count : MethodName := ⟨R_Mo, "count", "(II)I"⟩
abbrev b_Mo_next : ByteArray := prog_8_method_34_code
def y_Mo_next : MethodName := ⟨R_Mo, "next", "()I"⟩
abbrev b_Mo_start : ByteArray := prog_8_method_35_code
def y_Mo_start : MethodName := ⟨R_Mo, "start", "()I"⟩
abbrev b_Mo_make : ByteArray := prog_8_method_36_code
def y_Mo_make : MethodName := ⟨R_Mo, "make", "(I)V"⟩
abbrev b_Mo_append : ByteArray := prog_8_method_37_code
def y_Mo_append : MethodName := ⟨R_Mo, "append", "(I)V"⟩
abbrev b_Mo_record : ByteArray := prog_8_method_38_code
def y_Mo_record : MethodName := ⟨R_Mo, "record", "(III)V"⟩
abbrev b_Mo_letGo : ByteArray := prog_8_method_39_code
def y_Mo_letGo : MethodName := ⟨R_Mo, "letGo", "()I"⟩
abbrev b_Mo_finish : ByteArray := prog_8_method_40_code
def y_Mo_finish : MethodName := ⟨R_Mo, "finish", "(IZ)I"⟩
abbrev b_Mo_state : ByteArray := prog_8_method_41_code
def y_Mo_state : MethodName := ⟨R_Mo, "state", "()I"⟩
abbrev b_Mo_about : ByteArray := prog_8_method_42_code
def y_Mo_about : MethodName := ⟨R_Mo, "about", "(I)I"⟩
abbrev b_Mo_file : ByteArray := prog_8_method_43_code
def y_Mo_file : MethodName := ⟨R_Mo, "file", "(II)I"⟩
abbrev b_Mo_commandOf : ByteArray := prog_8_method_44_code
def y_Mo_commandOf : MethodName := ⟨R_Mo, "commandOf", "(I)I"⟩
abbrev b_Mo_log : ByteArray := prog_8_method_45_code
def y_Mo_log : MethodName := ⟨R_Mo, "log", "(I)I"⟩
abbrev b_Mo_right : ByteArray := prog_8_method_46_code
def y_Mo_right : MethodName := ⟨R_Mo, "right", "(I)Z"⟩
abbrev b_Mo_cut : ByteArray := prog_8_method_47_code
def y_Mo_cut : MethodName := ⟨R_Mo, "cut", "(I)I"⟩
abbrev b_Mo_spoil : ByteArray := prog_8_method_48_code
def y_Mo_spoil : MethodName := ⟨R_Mo, "spoil", "(II)Z"⟩
abbrev b_Bu_init : ByteArray := prog_2_method_1_code
def y_Bu_init : MethodName := ⟨R_Bu, "<init>", "()V"⟩
abbrev b_Bu_isUnderWay : ByteArray := prog_2_method_2_code
def y_Bu_isUnderWay : MethodName := ⟨R_Bu, "isUnderWay", "()Z"⟩
abbrev b_Bu_isPending : ByteArray := prog_2_method_3_code
def y_Bu_isPending : MethodName := ⟨R_Bu, "isPending", "(I)Z"⟩
abbrev b_Bu_countAt : ByteArray := prog_2_method_4_code
def y_Bu_countAt : MethodName := ⟨R_Bu, "countAt", "(I)I"⟩
abbrev b_Bu_renew : ByteArray := prog_2_method_5_code
def y_Bu_renew : MethodName := ⟨R_Bu, "renew", "(II)V"⟩
abbrev b_Bu_forget : ByteArray := prog_2_method_6_code
def y_Bu_forget : MethodName := ⟨R_Bu, "forget", "()V"⟩
abbrev b_Di_init : ByteArray := prog_3_method_1_code
def y_Di_init : MethodName := ⟨R_Di, "<init>", "()V"⟩
abbrev b_Di_put : ByteArray := prog_3_method_2_code
def y_Di_put : MethodName := ⟨R_Di, "put", "(II)V"⟩
abbrev b_Di_erase : ByteArray := prog_3_method_3_code
def y_Di_erase : MethodName := ⟨R_Di, "erase", "(I)V"⟩
abbrev b_Di_greatestTime : ByteArray := prog_3_method_4_code
def y_Di_greatestTime : MethodName := ⟨R_Di, "greatestTime", "(I)I"⟩
abbrev b_Gr_init : ByteArray := prog_4_method_1_code
def y_Gr_init : MethodName := ⟨R_Gr, "<init>", "()V"⟩
abbrev b_Gr_addEdge : ByteArray := prog_4_method_2_code
def y_Gr_addEdge : MethodName := ⟨R_Gr, "addEdge", "(III)I"⟩
abbrev b_Gr_hasEdge : ByteArray := prog_4_method_3_code
def y_Gr_hasEdge : MethodName := ⟨R_Gr, "hasEdge", "(I)Z"⟩
abbrev b_Gr_hasFlag : ByteArray := prog_4_method_4_code
def y_Gr_hasFlag : MethodName := ⟨R_Gr, "hasFlag", "(II)Z"⟩
abbrev b_Gr_isPhony : ByteArray := prog_4_method_5_code
def y_Gr_isPhony : MethodName := ⟨R_Gr, "isPhony", "(I)Z"⟩
abbrev b_Gr_join : ByteArray := prog_4_method_6_code
def y_Gr_join : MethodName := ⟨R_Gr, "join", "(III)V"⟩
abbrev b_Gr_needs : ByteArray := prog_4_method_7_code
def y_Gr_needs : MethodName := ⟨R_Gr, "needs", "(I)I"⟩
abbrev b_Gr_waits : ByteArray := prog_4_method_8_code
def y_Gr_waits : MethodName := ⟨R_Gr, "waits", "(I)I"⟩
abbrev b_Gr_made : ByteArray := prog_4_method_9_code
def y_Gr_made : MethodName := ⟨R_Gr, "made", "()I"⟩
abbrev b_Gr_madeByPhonies : ByteArray := prog_4_method_10_code
def y_Gr_madeByPhonies : MethodName := ⟨R_Gr, "madeByPhonies", "()I"⟩
abbrev b_Gr_read : ByteArray := prog_4_method_11_code
def y_Gr_read : MethodName := ⟨R_Gr, "read", "()I"⟩
abbrev b_Gr_behind : ByteArray := prog_4_method_12_code
def y_Gr_behind : MethodName := ⟨R_Gr, "behind", "(IZ)I"⟩
abbrev b_Gr_makersOf : ByteArray := prog_4_method_13_code
def y_Gr_makersOf : MethodName := ⟨R_Gr, "makersOf", "(I)I"⟩
abbrev b_Gr_waitedForBy : ByteArray := prog_4_method_14_code
def y_Gr_waitedForBy : MethodName := ⟨R_Gr, "waitedForBy", "(I)I"⟩
abbrev b_Gr_reachedFrom : ByteArray := prog_4_method_15_code
def y_Gr_reachedFrom : MethodName := ⟨R_Gr, "reachedFrom", "(I)I"⟩
abbrev b_Gr_nextToLookAt : ByteArray := prog_4_method_16_code
def y_Gr_nextToLookAt : MethodName := ⟨R_Gr, "nextToLookAt", "(II)I"⟩
abbrev b_Gr_hasCycle : ByteArray := prog_4_method_17_code
def y_Gr_hasCycle : MethodName := ⟨R_Gr, "hasCycle", "(I)Z"⟩
abbrev b_Re_init : ByteArray := prog_5_method_1_code
def y_Re_init : MethodName := ⟨R_Re, "<init>", "()V"⟩
abbrev b_Re_keep : ByteArray := prog_5_method_2_code
def y_Re_keep : MethodName := ⟨R_Re, "keep", "(II)V"⟩
abbrev b_Re_forget : ByteArray := prog_5_method_3_code
def y_Re_forget : MethodName := ⟨R_Re, "forget", "()V"⟩
abbrev b_RL_init : ByteArray := prog_6_method_1_code
def y_RL_init : MethodName := ⟨R_RL, "<init>", "()V"⟩
abbrev b_RL_hasByte : ByteArray := prog_6_method_2_code
def y_RL_hasByte : MethodName := ⟨R_RL, "hasByte", "(I)Z"⟩
abbrev b_RL_hasRecord : ByteArray := prog_6_method_3_code
def y_RL_hasRecord : MethodName := ⟨R_RL, "hasRecord", "(I)Z"⟩
abbrev b_RL_reaches : ByteArray := prog_6_method_4_code
def y_RL_reaches : MethodName := ⟨R_RL, "reaches", "(II)Z"⟩
abbrev b_RL_append : ByteArray := prog_6_method_5_code
def y_RL_append : MethodName := ⟨R_RL, "append", "(III)V"⟩
abbrev b_RL_writeAnew : ByteArray := prog_6_method_6_code
def y_RL_writeAnew : MethodName := ⟨R_RL, "writeAnew", "()V"⟩
abbrev b_RL_addBytes : ByteArray := prog_6_method_7_code
def y_RL_addBytes : MethodName := ⟨R_RL, "addBytes", "(I)V"⟩
abbrev b_RL_checkOf : ByteArray := prog_6_method_8_code
def y_RL_checkOf : MethodName := ⟨R_RL, "checkOf", "(I)I"⟩
abbrev b_RL_isRight : ByteArray := prog_6_method_9_code
def y_RL_isRight : MethodName := ⟨R_RL, "isRight", "(I)Z"⟩
abbrev b_RL_readAgain : ByteArray := prog_6_method_10_code
def y_RL_readAgain : MethodName := ⟨R_RL, "readAgain", "(I)V"⟩
abbrev b_RL_takeIn : ByteArray := prog_6_method_11_code
def y_RL_takeIn : MethodName := ⟨R_RL, "takeIn", "(I)V"⟩
abbrev b_La_edge : ByteArray := method_3_code
def y_La_edge : MethodName := ⟨R_La, "edge", "(LFileBuilder;III[J)I"⟩
abbrev b_La_link : ByteArray := method_4_code
def y_La_link : MethodName := ⟨R_La, "link", "(LFileBuilder;III)I"⟩
abbrev b_La_reads : ByteArray := method_5_code
def y_La_reads : MethodName := ⟨R_La, "reads", "(LFileBuilder;IIZ)I"⟩
abbrev b_La_command : ByteArray := method_6_code
def y_La_command : MethodName := ⟨R_La, "command", "(LFileBuilder;II)I"⟩
abbrev b_La_pool : ByteArray := method_7_code
def y_La_pool : MethodName := ⟨R_La, "pool", "(LFileBuilder;II)I"⟩
abbrev b_La_write : ByteArray := method_8_code
def y_La_write : MethodName := ⟨R_La, "write", "(LFileBuilder;II)I"⟩
abbrev b_La_remove : ByteArray := method_9_code
def y_La_remove : MethodName := ⟨R_La, "remove", "(LFileBuilder;I)I"⟩
abbrev b_La_begin : ByteArray := method_10_code
def y_La_begin : MethodName := ⟨R_La, "begin", "(LFileBuilder;III[J)I"⟩
abbrev b_La_finish : ByteArray := method_11_code
def y_La_finish : MethodName := ⟨R_La, "finish", "(LFileBuilder;IZ[J)I"⟩
abbrev b_La_about : ByteArray := method_12_code
def y_La_about : MethodName := ⟨R_La, "about", "(LFileBuilder;I[J)I"⟩
abbrev b_La_file : ByteArray := method_13_code
def y_La_file : MethodName := ⟨R_La, "file", "(LFileBuilder;II[J)I"⟩
abbrev b_La_commandOf : ByteArray := method_14_code
def y_La_commandOf : MethodName := ⟨R_La, "commandOf", "(LFileBuilder;I[J)I"⟩
abbrev b_La_cut : ByteArray := method_15_code
def y_La_cut : MethodName := ⟨R_La, "cut", "(LFileBuilder;I[J)I"⟩
abbrev b_Ar_fill : ByteArray := prog_17_method_103_code
def y_Ar_fill : MethodName := ⟨R_Ar, "fill", "([II)V"⟩
theorem tw_0 : (Jvm.Cond.initialized "FileBuilderLaw") ∈ xTB := x_t1 0 rfl rfl
theorem tw_1 : (Jvm.Cond.initialized "FileBuilder") ∈ xTB := x_t1 1 rfl rfl
theorem tw_2 : (Jvm.Cond.initialized "FileBuilder$Disk") ∈ xTB := x_t1 2 rfl rfl
theorem tw_3 : (Jvm.Cond.initialized "FileBuilder$Graph") ∈ xTB := x_t1 3 rfl rfl
theorem tw_4 : (Jvm.Cond.initialized "FileBuilder$Readings") ∈ xTB := x_t1 4 rfl rfl
theorem tw_5 : (Jvm.Cond.initialized "FileBuilder$RecordLog") ∈ xTB := x_t1 5 rfl rfl
theorem tw_6 : (Jvm.Cond.initialized "java/util/Arrays") ∈ xTB := x_t1 6 rfl rfl
theorem tw_7 : (Jvm.Cond.initialized "FileBuilder$Build") ∈ xTB := x_t1 7 rfl rfl
theorem tw_8 : (Jvm.Cond.initialized "FileBuilderModel") ∈ xTB := x_t1 8 rfl rfl
theorem tw_9 : (Jvm.Cond.initialized "java/lang/Throwable") ∈ xTB := x_t1 9 rfl rfl
theorem tw_10 : (Jvm.Cond.initialized "java/lang/Exception") ∈ xTB := x_t1 10 rfl rfl
theorem tw_11 : (Jvm.Cond.initialized "java/lang/RuntimeException") ∈ xTB := x_t1 11 rfl rfl
theorem tw_12 : (Jvm.Cond.initialized "java/lang/IllegalArgumentException") ∈ xTB := x_t1 12 rfl rfl
theorem tw_13 : (Jvm.Cond.initialized "java/lang/IllegalStateException") ∈ xTB := x_t1 13 rfl rfl
theorem tw_14 : (Jvm.Cond.initialized "java/util/NoSuchElementException") ∈ xTB := x_t1 14 rfl rfl
theorem tw_15 : (Jvm.Cond.initialized "java/lang/UnsupportedOperationException") ∈ xTB := x_t1 15 rfl rfl
theorem tw_16 : (Jvm.Cond.initialized "java/lang/Math") ∈ xTB := x_t1 16 rfl rfl
theorem tw_17 : (Jvm.Cond.classLink "FileBuilderLaw" (8 : Nat) "FileBuilder") ∈ xTB := x_t1 17 rfl rfl
theorem tw_18 : (Jvm.Cond.instantiable "FileBuilder" (6 : Nat)) ∈ xTB := x_t1 18 rfl rfl
theorem tw_19 : (Jvm.Cond.methodLink "FileBuilderLaw" (64 : Nat) ({ cls := "FileBuilder", name := "<init>", desc := "()V" } : Jvm.MethodName)) ∈ xTB := x_t1 19 rfl rfl
theorem tw_20 : (Jvm.Cond.instanceMethod ({ cls := "FileBuilder", name := "<init>", desc := "()V" } : Jvm.MethodName)) ∈ xTB := x_t1 20 rfl rfl
theorem tw_21 : (Jvm.Cond.code ({ cls := "FileBuilder", name := "<init>", desc := "()V" } : Jvm.MethodName) prog_1_method_1_code (1 : Nat) (Option.none : Option Jvm.ClassFile.FieldType)) ∈ xTB := x_t1 21 rfl rfl
theorem tw_22 : (Jvm.Cond.methodLink "FileBuilder" (3 : Nat) ({ cls := "java/lang/Object", name := "<init>", desc := "()V" } : Jvm.MethodName)) ∈ xTB := x_t1 22 rfl rfl
theorem tw_23 : (Jvm.Cond.instanceMethod ({ cls := "java/lang/Object", name := "<init>", desc := "()V" } : Jvm.MethodName)) ∈ xTB := x_t1 23 rfl rfl
theorem tw_24 : (Jvm.Cond.code ({ cls := "java/lang/Object", name := "<init>", desc := "()V" } : Jvm.MethodName) object_method_1_code (1 : Nat) (Option.none : Option Jvm.ClassFile.FieldType)) ∈ xTB := x_t1 24 rfl rfl
theorem tw_25 : (Jvm.Cond.classLink "FileBuilder" (9 : Nat) "FileBuilder$Disk") ∈ xTB := x_t1 25 rfl rfl
theorem tw_26 : (Jvm.Cond.instantiable "FileBuilder$Disk" (4 : Nat)) ∈ xTB := x_t1 26 rfl rfl
theorem tw_28 : (Jvm.Cond.instanceMethod ({ cls := "FileBuilder$Disk", name := "<init>", desc := "()V" } : Jvm.MethodName)) ∈ xTB := x_t1 28 rfl rfl
theorem tw_29 : (Jvm.Cond.code ({ cls := "FileBuilder$Disk", name := "<init>", desc := "()V" } : Jvm.MethodName) prog_3_method_1_code (1 : Nat) (Option.none : Option Jvm.ClassFile.FieldType)) ∈ xTB := x_t1 29 rfl rfl
theorem tw_30 : (Jvm.Cond.methodLink "FileBuilder$Disk" (3 : Nat) ({ cls := "java/lang/Object", name := "<init>", desc := "()V" } : Jvm.MethodName)) ∈ xTB := x_t1 30 rfl rfl
theorem tw_31 : (Jvm.Cond.fieldLink "FileBuilder$Disk" (9 : Nat) "FileBuilder$Disk" "contents" "[I") ∈ xTB := x_t1 31 rfl rfl
theorem tw_33 : (Jvm.Cond.fieldLink "FileBuilder$Disk" (15 : Nat) "FileBuilder$Disk" "times" "[I") ∈ xTB := x_t1 33 rfl rfl
theorem tw_35 : (Jvm.Cond.fieldLink "FileBuilder$Disk" (18 : Nat) "FileBuilder$Disk" "clock" "I") ∈ xTB := x_t1 35 rfl rfl
theorem tw_36 : (Jvm.Cond.fieldLink "FileBuilder$Disk" (22 : Nat) "FileBuilder$Disk" "there" "I") ∈ xTB := x_t1 36 rfl rfl
theorem tw_38 : (Jvm.Cond.laysFinal "FileBuilder$Disk" "FileBuilder$Disk" "contents" "[I") ∈ xTB := x_t1 38 rfl rfl
theorem tw_40 : (Jvm.Cond.laysFinal "FileBuilder$Disk" "FileBuilder$Disk" "times" "[I") ∈ xTB := x_t1 40 rfl rfl
theorem tw_42 : (Jvm.Cond.lays "FileBuilder$Disk" "FileBuilder$Disk" "clock" "I") ∈ xTB := x_t1 42 rfl rfl
theorem tw_44 : (Jvm.Cond.lays "FileBuilder$Disk" "FileBuilder$Disk" "there" "I") ∈ xTB := x_t1 44 rfl rfl
theorem tw_47 : (Jvm.Cond.arrayClass Jvm.ClassFile.FieldType.int) ∈ xTB := x_t1 47 rfl rfl
theorem tw_48 : (Jvm.Cond.classLink "FileBuilder" (16 : Nat) "FileBuilder$Graph") ∈ xTB := x_t1 48 rfl rfl
theorem tw_49 : (Jvm.Cond.instantiable "FileBuilder$Graph" (6 : Nat)) ∈ xTB := x_t1 49 rfl rfl
theorem tw_51 : (Jvm.Cond.instanceMethod ({ cls := "FileBuilder$Graph", name := "<init>", desc := "()V" } : Jvm.MethodName)) ∈ xTB := x_t1 51 rfl rfl
theorem tw_52 : (Jvm.Cond.code ({ cls := "FileBuilder$Graph", name := "<init>", desc := "()V" } : Jvm.MethodName) prog_4_method_1_code (1 : Nat) (Option.none : Option Jvm.ClassFile.FieldType)) ∈ xTB := x_t1 52 rfl rfl
theorem tw_53 : (Jvm.Cond.methodLink "FileBuilder$Graph" (3 : Nat) ({ cls := "java/lang/Object", name := "<init>", desc := "()V" } : Jvm.MethodName)) ∈ xTB := x_t1 53 rfl rfl
theorem tw_54 : (Jvm.Cond.classLink "FileBuilder$Graph" (24 : Nat) "[[I") ∈ xTB := x_t1 54 rfl rfl
theorem tw_56 : (Jvm.Cond.fieldLink "FileBuilder$Graph" (9 : Nat) "FileBuilder$Graph" "commands" "[I") ∈ xTB := x_t1 56 rfl rfl
theorem tw_58 : (Jvm.Cond.fieldLink "FileBuilder$Graph" (15 : Nat) "FileBuilder$Graph" "flags" "[I") ∈ xTB := x_t1 58 rfl rfl
theorem tw_59 : (Jvm.Cond.fieldLink "FileBuilder$Graph" (18 : Nat) "FileBuilder$Graph" "pools" "[I") ∈ xTB := x_t1 59 rfl rfl
theorem tw_61 : (Jvm.Cond.fieldLink "FileBuilder$Graph" (21 : Nat) "FileBuilder$Graph" "readBy" "[I") ∈ xTB := x_t1 61 rfl rfl
theorem tw_63 : (Jvm.Cond.fieldLink "FileBuilder$Graph" (26 : Nat) "FileBuilder$Graph" "links" "[[I") ∈ xTB := x_t1 63 rfl rfl
theorem tw_65 : (Jvm.Cond.fieldLink "FileBuilder$Graph" (29 : Nat) "FileBuilder$Graph" "count" "I") ∈ xTB := x_t1 65 rfl rfl
theorem tw_67 : (Jvm.Cond.laysFinal "FileBuilder$Graph" "FileBuilder$Graph" "commands" "[I") ∈ xTB := x_t1 67 rfl rfl
theorem tw_69 : (Jvm.Cond.laysFinal "FileBuilder$Graph" "FileBuilder$Graph" "flags" "[I") ∈ xTB := x_t1 69 rfl rfl
theorem tw_71 : (Jvm.Cond.laysFinal "FileBuilder$Graph" "FileBuilder$Graph" "pools" "[I") ∈ xTB := x_t1 71 rfl rfl
theorem tw_73 : (Jvm.Cond.laysFinal "FileBuilder$Graph" "FileBuilder$Graph" "readBy" "[I") ∈ xTB := x_t1 73 rfl rfl
theorem tw_75 : (Jvm.Cond.laysFinal "FileBuilder$Graph" "FileBuilder$Graph" "links" "[[I") ∈ xTB := x_t1 75 rfl rfl
theorem tw_77 : (Jvm.Cond.lays "FileBuilder$Graph" "FileBuilder$Graph" "count" "I") ∈ xTB := x_t1 77 rfl rfl
theorem tw_80 : (Jvm.Cond.classLink "FileBuilder" (23 : Nat) "FileBuilder$Readings") ∈ xTB := x_t1 80 rfl rfl
theorem tw_81 : (Jvm.Cond.instantiable "FileBuilder$Readings" (2 : Nat)) ∈ xTB := x_t1 81 rfl rfl
theorem tw_83 : (Jvm.Cond.instanceMethod ({ cls := "FileBuilder$Readings", name := "<init>", desc := "()V" } : Jvm.MethodName)) ∈ xTB := x_t1 83 rfl rfl
theorem tw_84 : (Jvm.Cond.code ({ cls := "FileBuilder$Readings", name := "<init>", desc := "()V" } : Jvm.MethodName) prog_5_method_1_code (1 : Nat) (Option.none : Option Jvm.ClassFile.FieldType)) ∈ xTB := x_t1 84 rfl rfl
theorem tw_85 : (Jvm.Cond.methodLink "FileBuilder$Readings" (3 : Nat) ({ cls := "java/lang/Object", name := "<init>", desc := "()V" } : Jvm.MethodName)) ∈ xTB := x_t1 85 rfl rfl
theorem tw_86 : (Jvm.Cond.fieldLink "FileBuilder$Readings" (9 : Nat) "FileBuilder$Readings" "recorded" "[I") ∈ xTB := x_t1 86 rfl rfl
theorem tw_88 : (Jvm.Cond.fieldLink "FileBuilder$Readings" (15 : Nat) "FileBuilder$Readings" "known" "[Z") ∈ xTB := x_t1 88 rfl rfl
theorem tw_90 : (Jvm.Cond.laysFinal "FileBuilder$Readings" "FileBuilder$Readings" "recorded" "[I") ∈ xTB := x_t1 90 rfl rfl
theorem tw_92 : (Jvm.Cond.laysFinal "FileBuilder$Readings" "FileBuilder$Readings" "known" "[Z") ∈ xTB := x_t1 92 rfl rfl
theorem tw_95 : (Jvm.Cond.arrayClass Jvm.ClassFile.FieldType.boolean) ∈ xTB := x_t1 95 rfl rfl
theorem tw_96 : (Jvm.Cond.classLink "FileBuilder" (30 : Nat) "FileBuilder$RecordLog") ∈ xTB := x_t1 96 rfl rfl
theorem tw_97 : (Jvm.Cond.instantiable "FileBuilder$RecordLog" (4 : Nat)) ∈ xTB := x_t1 97 rfl rfl
theorem tw_99 : (Jvm.Cond.instanceMethod ({ cls := "FileBuilder$RecordLog", name := "<init>", desc := "()V" } : Jvm.MethodName)) ∈ xTB := x_t1 99 rfl rfl
theorem tw_100 : (Jvm.Cond.code ({ cls := "FileBuilder$RecordLog", name := "<init>", desc := "()V" } : Jvm.MethodName) prog_6_method_1_code (1 : Nat) (Option.none : Option Jvm.ClassFile.FieldType)) ∈ xTB := x_t1 100 rfl rfl
theorem tw_101 : (Jvm.Cond.methodLink "FileBuilder$RecordLog" (5 : Nat) ({ cls := "java/lang/Object", name := "<init>", desc := "()V" } : Jvm.MethodName)) ∈ xTB := x_t1 101 rfl rfl
theorem tw_102 : (Jvm.Cond.methodLink "FileBuilder$RecordLog" (21 : Nat) ({ cls := "java/util/Arrays", name := "fill", desc := "([II)V" } : Jvm.MethodName)) ∈ xTB := x_t1 102 rfl rfl
theorem tw_103 : (Jvm.Cond.static ({ cls := "java/util/Arrays", name := "fill", desc := "([II)V" } : Jvm.MethodName)) ∈ xTB := x_t1 103 rfl rfl
theorem tw_104 : (Jvm.Cond.code ({ cls := "java/util/Arrays", name := "fill", desc := "([II)V" } : Jvm.MethodName) prog_17_method_103_code (4 : Nat) (Option.none : Option Jvm.ClassFile.FieldType)) ∈ xTB := x_t1 104 rfl rfl
theorem tw_105 : (Jvm.Cond.fieldLink "FileBuilder$RecordLog" (11 : Nat) "FileBuilder$RecordLog" "bytes" "[I") ∈ xTB := x_t1 105 rfl rfl
theorem tw_107 : (Jvm.Cond.fieldLink "FileBuilder$RecordLog" (15 : Nat) "FileBuilder$RecordLog" "commands" "[I") ∈ xTB := x_t1 107 rfl rfl
theorem tw_109 : (Jvm.Cond.fieldLink "FileBuilder$RecordLog" (18 : Nat) "FileBuilder$RecordLog" "times" "[I") ∈ xTB := x_t1 109 rfl rfl
theorem tw_111 : (Jvm.Cond.fieldLink "FileBuilder$RecordLog" (27 : Nat) "FileBuilder$RecordLog" "length" "I") ∈ xTB := x_t1 111 rfl rfl
theorem tw_113 : (Jvm.Cond.laysFinal "FileBuilder$RecordLog" "FileBuilder$RecordLog" "bytes" "[I") ∈ xTB := x_t1 113 rfl rfl
theorem tw_115 : (Jvm.Cond.laysFinal "FileBuilder$RecordLog" "FileBuilder$RecordLog" "commands" "[I") ∈ xTB := x_t1 115 rfl rfl
theorem tw_117 : (Jvm.Cond.laysFinal "FileBuilder$RecordLog" "FileBuilder$RecordLog" "times" "[I") ∈ xTB := x_t1 117 rfl rfl
theorem tw_119 : (Jvm.Cond.lays "FileBuilder$RecordLog" "FileBuilder$RecordLog" "length" "I") ∈ xTB := x_t1 119 rfl rfl
theorem tw_122 : (Jvm.Cond.classLink "FileBuilder" (37 : Nat) "FileBuilder$Build") ∈ xTB := x_t1 122 rfl rfl
theorem tw_123 : (Jvm.Cond.instantiable "FileBuilder$Build" (4 : Nat)) ∈ xTB := x_t1 123 rfl rfl
theorem tw_125 : (Jvm.Cond.instanceMethod ({ cls := "FileBuilder$Build", name := "<init>", desc := "()V" } : Jvm.MethodName)) ∈ xTB := x_t1 125 rfl rfl
theorem tw_126 : (Jvm.Cond.code ({ cls := "FileBuilder$Build", name := "<init>", desc := "()V" } : Jvm.MethodName) prog_2_method_1_code (1 : Nat) (Option.none : Option Jvm.ClassFile.FieldType)) ∈ xTB := x_t1 126 rfl rfl
theorem tw_127 : (Jvm.Cond.methodLink "FileBuilder$Build" (3 : Nat) ({ cls := "java/lang/Object", name := "<init>", desc := "()V" } : Jvm.MethodName)) ∈ xTB := x_t1 127 rfl rfl
theorem tw_128 : (Jvm.Cond.fieldLink "FileBuilder$Build" (9 : Nat) "FileBuilder$Build" "steps" "[I") ∈ xTB := x_t1 128 rfl rfl
theorem tw_130 : (Jvm.Cond.fieldLink "FileBuilder$Build" (25 : Nat) "FileBuilder$Build" "jobs" "I") ∈ xTB := x_t1 130 rfl rfl
theorem tw_132 : (Jvm.Cond.fieldLink "FileBuilder$Build" (28 : Nat) "FileBuilder$Build" "fail" "I") ∈ xTB := x_t1 132 rfl rfl
theorem tw_134 : (Jvm.Cond.fieldLink "FileBuilder$Build" (15 : Nat) "FileBuilder$Build" "stage" "I") ∈ xTB := x_t1 134 rfl rfl
theorem tw_136 : (Jvm.Cond.laysFinal "FileBuilder$Build" "FileBuilder$Build" "steps" "[I") ∈ xTB := x_t1 136 rfl rfl
theorem tw_138 : (Jvm.Cond.lays "FileBuilder$Build" "FileBuilder$Build" "jobs" "I") ∈ xTB := x_t1 138 rfl rfl
theorem tw_140 : (Jvm.Cond.lays "FileBuilder$Build" "FileBuilder$Build" "fail" "I") ∈ xTB := x_t1 140 rfl rfl
theorem tw_142 : (Jvm.Cond.lays "FileBuilder$Build" "FileBuilder$Build" "stage" "I") ∈ xTB := x_t1 142 rfl rfl
theorem tw_145 : (Jvm.Cond.methodLink "FileBuilder" (48 : Nat) ({ cls := "java/util/Arrays", name := "fill", desc := "([II)V" } : Jvm.MethodName)) ∈ xTB := x_t1 145 rfl rfl
theorem tw_146 : (Jvm.Cond.fieldLink "FileBuilder" (12 : Nat) "FileBuilder" "disk" "LFileBuilder$Disk;") ∈ xTB := x_t1 146 rfl rfl
theorem tw_147 : (Jvm.Cond.fieldLink "FileBuilder" (19 : Nat) "FileBuilder" "graph" "LFileBuilder$Graph;") ∈ xTB := x_t1 147 rfl rfl
theorem tw_148 : (Jvm.Cond.fieldLink "FileBuilder" (26 : Nat) "FileBuilder" "readings" "LFileBuilder$Readings;") ∈ xTB := x_t1 148 rfl rfl
theorem tw_149 : (Jvm.Cond.fieldLink "FileBuilder" (33 : Nat) "FileBuilder" "records" "LFileBuilder$RecordLog;") ∈ xTB := x_t1 149 rfl rfl
theorem tw_150 : (Jvm.Cond.fieldLink "FileBuilder" (40 : Nat) "FileBuilder" "build" "LFileBuilder$Build;") ∈ xTB := x_t1 150 rfl rfl
theorem tw_151 : (Jvm.Cond.fieldLink "FileBuilder" (44 : Nat) "FileBuilder" "depths" "[I") ∈ xTB := x_t1 151 rfl rfl
theorem tw_152 : (Jvm.Cond.laysFinal "FileBuilder" "FileBuilder" "disk" "LFileBuilder$Disk;") ∈ xTB := x_t1 152 rfl rfl
theorem tw_154 : (Jvm.Cond.laysFinal "FileBuilder" "FileBuilder" "graph" "LFileBuilder$Graph;") ∈ xTB := x_t1 154 rfl rfl
theorem tw_156 : (Jvm.Cond.laysFinal "FileBuilder" "FileBuilder" "readings" "LFileBuilder$Readings;") ∈ xTB := x_t1 156 rfl rfl
theorem tw_158 : (Jvm.Cond.laysFinal "FileBuilder" "FileBuilder" "records" "LFileBuilder$RecordLog;") ∈ xTB := x_t1 158 rfl rfl
theorem tw_160 : (Jvm.Cond.laysFinal "FileBuilder" "FileBuilder" "build" "LFileBuilder$Build;") ∈ xTB := x_t1 160 rfl rfl
theorem tw_162 : (Jvm.Cond.laysFinal "FileBuilder" "FileBuilder" "depths" "[I") ∈ xTB := x_t1 162 rfl rfl
theorem tw_165 : (Jvm.Cond.methodLink "FileBuilderLaw" (103 : Nat) ({ cls := "FileBuilder", name := "start", desc := "()I" } : Jvm.MethodName)) ∈ xTB := x_t1 165 rfl rfl
theorem tw_166 : (Jvm.Cond.instanceMethod ({ cls := "FileBuilder", name := "start", desc := "()I" } : Jvm.MethodName)) ∈ xTB := x_t1 166 rfl rfl
theorem tw_167 : (Jvm.Cond.selects "FileBuilder" ({ cls := "FileBuilder", name := "start", desc := "()I" } : Jvm.MethodName) ({ cls := "FileBuilder", name := "start", desc := "()I" } : Jvm.MethodName)) ∈ xTB := x_t1 167 rfl rfl
theorem tw_168 : (Jvm.Cond.code ({ cls := "FileBuilder", name := "start", desc := "()I" } : Jvm.MethodName) prog_1_method_10_code (2 : Nat) (Option.some Jvm.ClassFile.FieldType.int)) ∈ xTB := x_t1 168 rfl rfl
theorem tw_171 : (Jvm.Cond.instanceMethod ({ cls := "FileBuilder$Build", name := "isUnderWay", desc := "()Z" } : Jvm.MethodName)) ∈ xTB := x_t1 171 rfl rfl
theorem tw_172 : (Jvm.Cond.code ({ cls := "FileBuilder$Build", name := "isUnderWay", desc := "()Z" } : Jvm.MethodName) prog_2_method_2_code (1 : Nat) (Option.some Jvm.ClassFile.FieldType.boolean)) ∈ xTB := x_t1 172 rfl rfl
theorem tw_173 : (Jvm.Cond.methodLink "FileBuilder" (193 : Nat) ({ cls := "FileBuilder", name := "nextToBegin", desc := "()I" } : Jvm.MethodName)) ∈ xTB := x_t1 173 rfl rfl
theorem tw_175 : (Jvm.Cond.instanceMethod ({ cls := "FileBuilder", name := "nextToBegin", desc := "()I" } : Jvm.MethodName)) ∈ xTB := x_t1 175 rfl rfl
theorem tw_176 : (Jvm.Cond.code ({ cls := "FileBuilder", name := "nextToBegin", desc := "()I" } : Jvm.MethodName) prog_1_method_35_code (2 : Nat) (Option.some Jvm.ClassFile.FieldType.int)) ∈ xTB := x_t1 176 rfl rfl
theorem tw_179 : (Jvm.Cond.instanceMethod ({ cls := "FileBuilder$Build", name := "countAt", desc := "(I)I" } : Jvm.MethodName)) ∈ xTB := x_t1 179 rfl rfl
theorem tw_180 : (Jvm.Cond.code ({ cls := "FileBuilder$Build", name := "countAt", desc := "(I)I" } : Jvm.MethodName) prog_2_method_4_code (4 : Nat) (Option.some Jvm.ClassFile.FieldType.int)) ∈ xTB := x_t1 180 rfl rfl
theorem tw_181 : (Jvm.Cond.methodLink "FileBuilder" (304 : Nat) ({ cls := "FileBuilder", name := "hasRoomInPool", desc := "(I)Z" } : Jvm.MethodName)) ∈ xTB := x_t1 181 rfl rfl
theorem tw_183 : (Jvm.Cond.instanceMethod ({ cls := "FileBuilder", name := "hasRoomInPool", desc := "(I)Z" } : Jvm.MethodName)) ∈ xTB := x_t1 183 rfl rfl
theorem tw_184 : (Jvm.Cond.code ({ cls := "FileBuilder", name := "hasRoomInPool", desc := "(I)Z" } : Jvm.MethodName) prog_1_method_36_code (5 : Nat) (Option.some Jvm.ClassFile.FieldType.boolean)) ∈ xTB := x_t1 184 rfl rfl
theorem tw_187 : (Jvm.Cond.instanceMethod ({ cls := "FileBuilder$Graph", name := "behind", desc := "(IZ)I" } : Jvm.MethodName)) ∈ xTB := x_t1 187 rfl rfl
theorem tw_188 : (Jvm.Cond.code ({ cls := "FileBuilder$Graph", name := "behind", desc := "(IZ)I" } : Jvm.MethodName) prog_4_method_12_code (7 : Nat) (Option.some Jvm.ClassFile.FieldType.int)) ∈ xTB := x_t1 188 rfl rfl
theorem tw_189 : (Jvm.Cond.methodLink "FileBuilder$Graph" (49 : Nat) ({ cls := "FileBuilder$Graph", name := "waits", desc := "(I)I" } : Jvm.MethodName)) ∈ xTB := x_t1 189 rfl rfl
theorem tw_191 : (Jvm.Cond.instanceMethod ({ cls := "FileBuilder$Graph", name := "waits", desc := "(I)I" } : Jvm.MethodName)) ∈ xTB := x_t1 191 rfl rfl
theorem tw_192 : (Jvm.Cond.code ({ cls := "FileBuilder$Graph", name := "waits", desc := "(I)I" } : Jvm.MethodName) prog_4_method_8_code (2 : Nat) (Option.some Jvm.ClassFile.FieldType.int)) ∈ xTB := x_t1 192 rfl rfl
theorem tw_193 : (Jvm.Cond.methodLink "FileBuilder$Graph" (41 : Nat) ({ cls := "FileBuilder$Graph", name := "needs", desc := "(I)I" } : Jvm.MethodName)) ∈ xTB := x_t1 193 rfl rfl
theorem tw_195 : (Jvm.Cond.instanceMethod ({ cls := "FileBuilder$Graph", name := "needs", desc := "(I)I" } : Jvm.MethodName)) ∈ xTB := x_t1 195 rfl rfl
theorem tw_196 : (Jvm.Cond.code ({ cls := "FileBuilder$Graph", name := "needs", desc := "(I)I" } : Jvm.MethodName) prog_4_method_7_code (2 : Nat) (Option.some Jvm.ClassFile.FieldType.int)) ∈ xTB := x_t1 196 rfl rfl
theorem tw_197 : (Jvm.Cond.methodLink "FileBuilder$Graph" (45 : Nat) ({ cls := "FileBuilder$Graph", name := "isPhony", desc := "(I)Z" } : Jvm.MethodName)) ∈ xTB := x_t1 197 rfl rfl
theorem tw_199 : (Jvm.Cond.instanceMethod ({ cls := "FileBuilder$Graph", name := "isPhony", desc := "(I)Z" } : Jvm.MethodName)) ∈ xTB := x_t1 199 rfl rfl
theorem tw_200 : (Jvm.Cond.code ({ cls := "FileBuilder$Graph", name := "isPhony", desc := "(I)Z" } : Jvm.MethodName) prog_4_method_5_code (2 : Nat) (Option.some Jvm.ClassFile.FieldType.boolean)) ∈ xTB := x_t1 200 rfl rfl
theorem tw_201 : (Jvm.Cond.methodLink "FileBuilder$Graph" (37 : Nat) ({ cls := "FileBuilder$Graph", name := "hasFlag", desc := "(II)Z" } : Jvm.MethodName)) ∈ xTB := x_t1 201 rfl rfl
theorem tw_203 : (Jvm.Cond.instanceMethod ({ cls := "FileBuilder$Graph", name := "hasFlag", desc := "(II)Z" } : Jvm.MethodName)) ∈ xTB := x_t1 203 rfl rfl
theorem tw_204 : (Jvm.Cond.code ({ cls := "FileBuilder$Graph", name := "hasFlag", desc := "(II)Z" } : Jvm.MethodName) prog_4_method_4_code (3 : Nat) (Option.some Jvm.ClassFile.FieldType.boolean)) ∈ xTB := x_t1 204 rfl rfl
theorem tw_205 : (Jvm.Cond.methodLink "FileBuilder" (263 : Nat) ({ cls := "FileBuilder", name := "isMadeByPending", desc := "(I)Z" } : Jvm.MethodName)) ∈ xTB := x_t1 205 rfl rfl
theorem tw_207 : (Jvm.Cond.instanceMethod ({ cls := "FileBuilder", name := "isMadeByPending", desc := "(I)Z" } : Jvm.MethodName)) ∈ xTB := x_t1 207 rfl rfl
theorem tw_208 : (Jvm.Cond.code ({ cls := "FileBuilder", name := "isMadeByPending", desc := "(I)Z" } : Jvm.MethodName) prog_1_method_34_code (3 : Nat) (Option.some Jvm.ClassFile.FieldType.boolean)) ∈ xTB := x_t1 208 rfl rfl
theorem tw_211 : (Jvm.Cond.instanceMethod ({ cls := "FileBuilder$Build", name := "isPending", desc := "(I)Z" } : Jvm.MethodName)) ∈ xTB := x_t1 211 rfl rfl
theorem tw_212 : (Jvm.Cond.code ({ cls := "FileBuilder$Build", name := "isPending", desc := "(I)Z" } : Jvm.MethodName) prog_2_method_3_code (2 : Nat) (Option.some Jvm.ClassFile.FieldType.boolean)) ∈ xTB := x_t1 212 rfl rfl
theorem tw_213 : (Jvm.Cond.methodLink "FileBuilderLaw" (111 : Nat) ({ cls := "FileBuilder", name := "state", desc := "()I" } : Jvm.MethodName)) ∈ xTB := x_t1 213 rfl rfl
theorem tw_214 : (Jvm.Cond.instanceMethod ({ cls := "FileBuilder", name := "state", desc := "()I" } : Jvm.MethodName)) ∈ xTB := x_t1 214 rfl rfl
theorem tw_215 : (Jvm.Cond.selects "FileBuilder" ({ cls := "FileBuilder", name := "state", desc := "()I" } : Jvm.MethodName) ({ cls := "FileBuilder", name := "state", desc := "()I" } : Jvm.MethodName)) ∈ xTB := x_t1 215 rfl rfl
theorem tw_216 : (Jvm.Cond.code ({ cls := "FileBuilder", name := "state", desc := "()I" } : Jvm.MethodName) prog_1_method_12_code (1 : Nat) (Option.some Jvm.ClassFile.FieldType.int)) ∈ xTB := x_t1 216 rfl rfl
theorem tw_217 : (Jvm.Cond.methodLink "FileBuilderLaw" (126 : Nat) ({ cls := "FileBuilder", name := "log", desc := "(I)I" } : Jvm.MethodName)) ∈ xTB := x_t1 217 rfl rfl
theorem tw_218 : (Jvm.Cond.instanceMethod ({ cls := "FileBuilder", name := "log", desc := "(I)I" } : Jvm.MethodName)) ∈ xTB := x_t1 218 rfl rfl
theorem tw_219 : (Jvm.Cond.selects "FileBuilder" ({ cls := "FileBuilder", name := "log", desc := "(I)I" } : Jvm.MethodName) ({ cls := "FileBuilder", name := "log", desc := "(I)I" } : Jvm.MethodName)) ∈ xTB := x_t1 219 rfl rfl
theorem tw_220 : (Jvm.Cond.code ({ cls := "FileBuilder", name := "log", desc := "(I)I" } : Jvm.MethodName) prog_1_method_16_code (2 : Nat) (Option.some Jvm.ClassFile.FieldType.int)) ∈ xTB := x_t1 220 rfl rfl
theorem tw_223 : (Jvm.Cond.instanceMethod ({ cls := "FileBuilder$RecordLog", name := "hasByte", desc := "(I)Z" } : Jvm.MethodName)) ∈ xTB := x_t1 223 rfl rfl
theorem tw_224 : (Jvm.Cond.code ({ cls := "FileBuilder$RecordLog", name := "hasByte", desc := "(I)Z" } : Jvm.MethodName) prog_6_method_2_code (2 : Nat) (Option.some Jvm.ClassFile.FieldType.boolean)) ∈ xTB := x_t1 224 rfl rfl
theorem tw_226 : (Jvm.Cond.static ({ cls := "FileBuilder", name := "isIn", desc := "(III)Z" } : Jvm.MethodName)) ∈ xTB := x_t1 226 rfl rfl
theorem tw_227 : (Jvm.Cond.code ({ cls := "FileBuilder", name := "isIn", desc := "(III)Z" } : Jvm.MethodName) prog_1_method_19_code (3 : Nat) (Option.some Jvm.ClassFile.FieldType.boolean)) ∈ xTB := x_t1 227 rfl rfl
theorem tw_228 : (Jvm.Cond.methodLink "FileBuilderLaw" (133 : Nat) ({ cls := "FileBuilder", name := "spoil", desc := "(II)Z" } : Jvm.MethodName)) ∈ xTB := x_t1 228 rfl rfl
theorem tw_229 : (Jvm.Cond.instanceMethod ({ cls := "FileBuilder", name := "spoil", desc := "(II)Z" } : Jvm.MethodName)) ∈ xTB := x_t1 229 rfl rfl
theorem tw_230 : (Jvm.Cond.selects "FileBuilder" ({ cls := "FileBuilder", name := "spoil", desc := "(II)Z" } : Jvm.MethodName) ({ cls := "FileBuilder", name := "spoil", desc := "(II)Z" } : Jvm.MethodName)) ∈ xTB := x_t1 230 rfl rfl
theorem tw_231 : (Jvm.Cond.code ({ cls := "FileBuilder", name := "spoil", desc := "(II)Z" } : Jvm.MethodName) prog_1_method_18_code (3 : Nat) (Option.some Jvm.ClassFile.FieldType.boolean)) ∈ xTB := x_t1 231 rfl rfl
theorem tw_232 : (Jvm.Cond.methodLink "FileBuilderLaw" (68 : Nat) ({ cls := "FileBuilderLaw", name := "edge", desc := "(LFileBuilder;III[J)I" } : Jvm.MethodName)) ∈ xTB := x_t1 232 rfl rfl
theorem tw_233 : (Jvm.Cond.static ({ cls := "FileBuilderLaw", name := "edge", desc := "(LFileBuilder;III[J)I" } : Jvm.MethodName)) ∈ xTB := x_t1 233 rfl rfl
theorem tw_234 : (Jvm.Cond.codeWith ({ cls := "FileBuilderLaw", name := "edge", desc := "(LFileBuilder;III[J)I" } : Jvm.MethodName) method_3_code (6 : Nat) (Option.some Jvm.ClassFile.FieldType.int) [((0 : Nat), (12 : Nat), (15 : Nat), (13 : Nat)), ((0 : Nat), (12 : Nat), (19 : Nat), (15 : Nat))]) ∈ xTB := x_t1 234 rfl rfl
theorem tw_235 : (Jvm.Cond.classLink "FileBuilderLaw" (13 : Nat) "java/lang/IllegalArgumentException") ∈ xTB := x_t1 235 rfl rfl
theorem tw_236 : (Jvm.Cond.classLink "FileBuilderLaw" (15 : Nat) "java/lang/IllegalStateException") ∈ xTB := x_t1 236 rfl rfl
theorem tw_237 : (Jvm.Cond.methodLink "FileBuilderLaw" (7 : Nat) ({ cls := "FileBuilder", name := "edge", desc := "(III)I" } : Jvm.MethodName)) ∈ xTB := x_t1 237 rfl rfl
theorem tw_238 : (Jvm.Cond.instanceMethod ({ cls := "FileBuilder", name := "edge", desc := "(III)I" } : Jvm.MethodName)) ∈ xTB := x_t1 238 rfl rfl
theorem tw_239 : (Jvm.Cond.selects "FileBuilder" ({ cls := "FileBuilder", name := "edge", desc := "(III)I" } : Jvm.MethodName) ({ cls := "FileBuilder", name := "edge", desc := "(III)I" } : Jvm.MethodName)) ∈ xTB := x_t1 239 rfl rfl
theorem tw_240 : (Jvm.Cond.code ({ cls := "FileBuilder", name := "edge", desc := "(III)I" } : Jvm.MethodName) prog_1_method_2_code (4 : Nat) (Option.some Jvm.ClassFile.FieldType.int)) ∈ xTB := x_t2 0 rfl rfl
theorem tw_241 : (Jvm.Cond.methodLink "FileBuilder" (54 : Nat) ({ cls := "FileBuilder", name := "isCommand", desc := "(I)Z" } : Jvm.MethodName)) ∈ xTB := x_t2 1 rfl rfl
theorem tw_242 : (Jvm.Cond.static ({ cls := "FileBuilder", name := "isCommand", desc := "(I)Z" } : Jvm.MethodName)) ∈ xTB := x_t2 2 rfl rfl
theorem tw_243 : (Jvm.Cond.code ({ cls := "FileBuilder", name := "isCommand", desc := "(I)Z" } : Jvm.MethodName) prog_1_method_21_code (1 : Nat) (Option.some Jvm.ClassFile.FieldType.boolean)) ∈ xTB := x_t2 3 rfl rfl
theorem tw_244 : (Jvm.Cond.constant "FileBuilder" (127 : Nat) (65535 : Int32)) ∈ xTB := x_t2 4 rfl rfl
theorem tw_245 : (Jvm.Cond.methodLink "FileBuilder" (61 : Nat) ({ cls := "FileBuilder", name := "isIn", desc := "(III)Z" } : Jvm.MethodName)) ∈ xTB := x_t2 5 rfl rfl
theorem tw_246 : (Jvm.Cond.methodLink "FileBuilder" (58 : Nat) ({ cls := "FileBuilder", name := "areFlags", desc := "(I)Z" } : Jvm.MethodName)) ∈ xTB := x_t2 6 rfl rfl
theorem tw_247 : (Jvm.Cond.static ({ cls := "FileBuilder", name := "areFlags", desc := "(I)Z" } : Jvm.MethodName)) ∈ xTB := x_t2 7 rfl rfl
theorem tw_248 : (Jvm.Cond.code ({ cls := "FileBuilder", name := "areFlags", desc := "(I)Z" } : Jvm.MethodName) prog_1_method_22_code (1 : Nat) (Option.some Jvm.ClassFile.FieldType.boolean)) ∈ xTB := x_t2 8 rfl rfl
theorem tw_249 : (Jvm.Cond.classLink "FileBuilder" (65 : Nat) "java/lang/IllegalArgumentException") ∈ xTB := x_t2 9 rfl rfl
theorem tw_250 : (Jvm.Cond.instantiable "java/lang/IllegalArgumentException" (6 : Nat)) ∈ xTB := x_t2 10 rfl rfl
theorem tw_258 : (Jvm.Cond.selects "java/lang/IllegalArgumentException" ({ cls := "java/lang/Throwable", name := "fillInStackTrace", desc := "(I)Ljava/lang/Throwable;" } : Jvm.MethodName) ({ cls := "java/lang/Throwable", name := "fillInStackTrace", desc := "(I)Ljava/lang/Throwable;" } : Jvm.MethodName)) ∈ xTB := x_t2 18 rfl rfl
theorem tw_259 : (Jvm.Cond.selects "java/lang/IllegalArgumentException" ({ cls := "java/lang/Throwable", name := "fillInStackTrace", desc := "()Ljava/lang/Throwable;" } : Jvm.MethodName) ({ cls := "java/lang/Throwable", name := "fillInStackTrace", desc := "()Ljava/lang/Throwable;" } : Jvm.MethodName)) ∈ xTB := x_t2 19 rfl rfl
theorem tw_260 : (Jvm.Cond.lays "java/lang/IllegalArgumentException" "java/lang/Throwable" "cause" "Ljava/lang/Throwable;") ∈ xTB := x_t2 20 rfl rfl
theorem tw_261 : (Jvm.Cond.lays "java/lang/Throwable" "java/lang/Throwable" "cause" "Ljava/lang/Throwable;") ∈ xTB := x_t2 21 rfl rfl
theorem tw_262 : (Jvm.Cond.lays "java/lang/IllegalArgumentException" "java/lang/Throwable" "stackTrace" "[Ljava/lang/StackTraceElement;") ∈ xTB := x_t2 22 rfl rfl
theorem tw_263 : (Jvm.Cond.lays "java/lang/Throwable" "java/lang/Throwable" "stackTrace" "[Ljava/lang/StackTraceElement;") ∈ xTB := x_t2 23 rfl rfl
theorem tw_264 : (Jvm.Cond.lays "java/lang/IllegalArgumentException" "java/lang/Throwable" "suppressedExceptions" "Ljava/util/List;") ∈ xTB := x_t2 24 rfl rfl
theorem tw_265 : (Jvm.Cond.lays "java/lang/Throwable" "java/lang/Throwable" "suppressedExceptions" "Ljava/util/List;") ∈ xTB := x_t2 25 rfl rfl
theorem tw_266 : (Jvm.Cond.lays "java/lang/IllegalArgumentException" "java/lang/Throwable" "detailMessage" "Ljava/lang/String;") ∈ xTB := x_t2 26 rfl rfl
theorem tw_267 : (Jvm.Cond.lays "java/lang/Throwable" "java/lang/Throwable" "detailMessage" "Ljava/lang/String;") ∈ xTB := x_t2 27 rfl rfl
theorem tw_268 : (Jvm.Cond.lays "java/lang/IllegalArgumentException" "java/lang/Throwable" "backtrace" "Ljava/lang/Object;") ∈ xTB := x_t2 28 rfl rfl
theorem tw_269 : (Jvm.Cond.lays "java/lang/Throwable" "java/lang/Throwable" "backtrace" "Ljava/lang/Object;") ∈ xTB := x_t2 29 rfl rfl
theorem tw_270 : (Jvm.Cond.fieldLink "java/lang/Throwable" (198 : Nat) "java/lang/Throwable" "backtrace" "Ljava/lang/Object;") ∈ xTB := x_t2 30 rfl rfl
theorem tw_272 : (Jvm.Cond.instanceMethod ({ cls := "java/lang/Throwable", name := "<init>", desc := "()V" } : Jvm.MethodName)) ∈ xTB := x_t2 32 rfl rfl
theorem tw_273 : (Jvm.Cond.code ({ cls := "java/lang/Throwable", name := "<init>", desc := "()V" } : Jvm.MethodName) prog_15_method_1_code (1 : Nat) (Option.none : Option Jvm.ClassFile.FieldType)) ∈ xTB := x_t2 33 rfl rfl
theorem tw_274 : (Jvm.Cond.methodLink "java/lang/Throwable" (1 : Nat) ({ cls := "java/lang/Object", name := "<init>", desc := "()V" } : Jvm.MethodName)) ∈ xTB := x_t2 34 rfl rfl
theorem tw_275 : (Jvm.Cond.fieldLink "java/lang/Throwable" (13 : Nat) "java/lang/Throwable" "UNASSIGNED_STACK" "[Ljava/lang/StackTraceElement;") ∈ xTB := x_t2 35 rfl rfl
theorem tw_277 : (Jvm.Cond.fieldLink "java/lang/Throwable" (20 : Nat) "java/lang/Throwable" "SUPPRESSED_SENTINEL" "Ljava/util/List;") ∈ xTB := x_t2 37 rfl rfl
theorem tw_279 : (Jvm.Cond.methodLink "java/lang/Throwable" (27 : Nat) ({ cls := "java/lang/Throwable", name := "fillInStackTrace", desc := "()Ljava/lang/Throwable;" } : Jvm.MethodName)) ∈ xTB := x_t2 39 rfl rfl
theorem tw_280 : (Jvm.Cond.instanceMethod ({ cls := "java/lang/Throwable", name := "fillInStackTrace", desc := "()Ljava/lang/Throwable;" } : Jvm.MethodName)) ∈ xTB := x_t2 40 rfl rfl
theorem tw_281 : (Jvm.Cond.sameMethod "java/lang/Throwable" "java/lang/Throwable" "fillInStackTrace" "()Ljava/lang/Throwable;") ∈ xTB := x_t2 41 rfl rfl
theorem tw_282 : (Jvm.Cond.selects "java/lang/IllegalStateException" ({ cls := "java/lang/Throwable", name := "fillInStackTrace", desc := "()Ljava/lang/Throwable;" } : Jvm.MethodName) ({ cls := "java/lang/Throwable", name := "fillInStackTrace", desc := "()Ljava/lang/Throwable;" } : Jvm.MethodName)) ∈ xTB := x_t2 42 rfl rfl
theorem tw_283 : (Jvm.Cond.selects "java/lang/UnsupportedOperationException" ({ cls := "java/lang/Throwable", name := "fillInStackTrace", desc := "()Ljava/lang/Throwable;" } : Jvm.MethodName) ({ cls := "java/lang/Throwable", name := "fillInStackTrace", desc := "()Ljava/lang/Throwable;" } : Jvm.MethodName)) ∈ xTB := x_t2 43 rfl rfl
theorem tw_284 : (Jvm.Cond.selects "java/util/NoSuchElementException" ({ cls := "java/lang/Throwable", name := "fillInStackTrace", desc := "()Ljava/lang/Throwable;" } : Jvm.MethodName) ({ cls := "java/lang/Throwable", name := "fillInStackTrace", desc := "()Ljava/lang/Throwable;" } : Jvm.MethodName)) ∈ xTB := x_t2 44 rfl rfl
theorem tw_285 : (Jvm.Cond.codeSync ({ cls := "java/lang/Throwable", name := "fillInStackTrace", desc := "()Ljava/lang/Throwable;" } : Jvm.MethodName) prog_15_method_18_code (1 : Nat) (Option.some (Jvm.ClassFile.FieldType.object "java/lang/Throwable"))) ∈ xTB := x_t2 45 rfl rfl
theorem tw_286 : (Jvm.Cond.methodLink "java/lang/Throwable" (202 : Nat) ({ cls := "java/lang/Throwable", name := "fillInStackTrace", desc := "(I)Ljava/lang/Throwable;" } : Jvm.MethodName)) ∈ xTB := x_t2 46 rfl rfl
theorem tw_288 : (Jvm.Cond.instanceMethod ({ cls := "java/lang/Throwable", name := "fillInStackTrace", desc := "(I)Ljava/lang/Throwable;" } : Jvm.MethodName)) ∈ xTB := x_t2 48 rfl rfl
theorem tw_289 : (Jvm.Cond.instantiable "java/lang/Throwable" (6 : Nat)) ∈ xTB := x_t2 49 rfl rfl
theorem tw_290 : (Jvm.Cond.native ({ cls := "java/lang/Throwable", name := "fillInStackTrace", desc := "(I)Ljava/lang/Throwable;" } : Jvm.MethodName)) ∈ xTB := x_t2 50 rfl rfl
theorem tw_292 : (Jvm.Cond.methodLink "FileBuilder" (69 : Nat) ({ cls := "java/lang/IllegalArgumentException", name := "<init>", desc := "(Ljava/lang/String;)V" } : Jvm.MethodName)) ∈ xTB := x_t2 52 rfl rfl
theorem tw_293 : (Jvm.Cond.instanceMethod ({ cls := "java/lang/IllegalArgumentException", name := "<init>", desc := "(Ljava/lang/String;)V" } : Jvm.MethodName)) ∈ xTB := x_t2 53 rfl rfl
theorem tw_294 : (Jvm.Cond.code ({ cls := "java/lang/IllegalArgumentException", name := "<init>", desc := "(Ljava/lang/String;)V" } : Jvm.MethodName) prog_10_method_2_code (2 : Nat) (Option.none : Option Jvm.ClassFile.FieldType)) ∈ xTB := x_t2 54 rfl rfl
theorem tw_295 : (Jvm.Cond.methodLink "java/lang/IllegalArgumentException" (7 : Nat) ({ cls := "java/lang/RuntimeException", name := "<init>", desc := "(Ljava/lang/String;)V" } : Jvm.MethodName)) ∈ xTB := x_t2 55 rfl rfl
theorem tw_296 : (Jvm.Cond.instanceMethod ({ cls := "java/lang/RuntimeException", name := "<init>", desc := "(Ljava/lang/String;)V" } : Jvm.MethodName)) ∈ xTB := x_t2 56 rfl rfl
theorem tw_297 : (Jvm.Cond.code ({ cls := "java/lang/RuntimeException", name := "<init>", desc := "(Ljava/lang/String;)V" } : Jvm.MethodName) prog_13_method_2_code (2 : Nat) (Option.none : Option Jvm.ClassFile.FieldType)) ∈ xTB := x_t2 57 rfl rfl
theorem tw_298 : (Jvm.Cond.methodLink "java/lang/RuntimeException" (7 : Nat) ({ cls := "java/lang/Exception", name := "<init>", desc := "(Ljava/lang/String;)V" } : Jvm.MethodName)) ∈ xTB := x_t2 58 rfl rfl
theorem tw_299 : (Jvm.Cond.instanceMethod ({ cls := "java/lang/Exception", name := "<init>", desc := "(Ljava/lang/String;)V" } : Jvm.MethodName)) ∈ xTB := x_t2 59 rfl rfl
theorem tw_300 : (Jvm.Cond.code ({ cls := "java/lang/Exception", name := "<init>", desc := "(Ljava/lang/String;)V" } : Jvm.MethodName) prog_9_method_2_code (2 : Nat) (Option.none : Option Jvm.ClassFile.FieldType)) ∈ xTB := x_t2 60 rfl rfl
theorem tw_301 : (Jvm.Cond.methodLink "java/lang/Exception" (7 : Nat) ({ cls := "java/lang/Throwable", name := "<init>", desc := "(Ljava/lang/String;)V" } : Jvm.MethodName)) ∈ xTB := x_t2 61 rfl rfl
theorem tw_302 : (Jvm.Cond.instanceMethod ({ cls := "java/lang/Throwable", name := "<init>", desc := "(Ljava/lang/String;)V" } : Jvm.MethodName)) ∈ xTB := x_t2 62 rfl rfl
theorem tw_303 : (Jvm.Cond.code ({ cls := "java/lang/Throwable", name := "<init>", desc := "(Ljava/lang/String;)V" } : Jvm.MethodName) prog_15_method_2_code (2 : Nat) (Option.none : Option Jvm.ClassFile.FieldType)) ∈ xTB := x_t2 63 rfl rfl
theorem tw_304 : (Jvm.Cond.fieldLink "java/lang/Throwable" (198 : Nat) "java/lang/Throwable" "backtrace" "Ljava/lang/Object;") ∈ xTB := x_t2 64 rfl rfl
theorem tw_305 : (Jvm.Cond.fieldLink "java/lang/Throwable" (31 : Nat) "java/lang/Throwable" "detailMessage" "Ljava/lang/String;") ∈ xTB := x_t2 65 rfl rfl
theorem tw_306 : (Jvm.Cond.fieldLink "java/lang/Throwable" (7 : Nat) "java/lang/Throwable" "cause" "Ljava/lang/Throwable;") ∈ xTB := x_t2 66 rfl rfl
theorem tw_307 : (Jvm.Cond.fieldLink "java/lang/Throwable" (17 : Nat) "java/lang/Throwable" "stackTrace" "[Ljava/lang/StackTraceElement;") ∈ xTB := x_t2 67 rfl rfl
theorem tw_308 : (Jvm.Cond.fieldLink "java/lang/Throwable" (24 : Nat) "java/lang/Throwable" "suppressedExceptions" "Ljava/util/List;") ∈ xTB := x_t2 68 rfl rfl
theorem tw_313 : (Jvm.Cond.lays "java/lang/IllegalArgumentException" "java/lang/Throwable" "depth" "I") ∈ xTB := x_t2 73 rfl rfl
theorem tw_317 : (Jvm.Cond.arrayClass Jvm.ClassFile.FieldType.byte) ∈ xTB := x_t2 77 rfl rfl
theorem tw_318 : (Jvm.Cond.classLink "FileBuilder" (80 : Nat) "java/lang/IllegalStateException") ∈ xTB := x_t2 78 rfl rfl
theorem tw_319 : (Jvm.Cond.instantiable "java/lang/IllegalStateException" (6 : Nat)) ∈ xTB := x_t2 79 rfl rfl
theorem tw_321 : (Jvm.Cond.selects "java/lang/IllegalStateException" ({ cls := "java/lang/Throwable", name := "fillInStackTrace", desc := "(I)Ljava/lang/Throwable;" } : Jvm.MethodName) ({ cls := "java/lang/Throwable", name := "fillInStackTrace", desc := "(I)Ljava/lang/Throwable;" } : Jvm.MethodName)) ∈ xTB := x_t2 81 rfl rfl
theorem tw_322 : (Jvm.Cond.lays "java/lang/IllegalStateException" "java/lang/Throwable" "cause" "Ljava/lang/Throwable;") ∈ xTB := x_t2 82 rfl rfl
theorem tw_323 : (Jvm.Cond.lays "java/lang/IllegalStateException" "java/lang/Throwable" "stackTrace" "[Ljava/lang/StackTraceElement;") ∈ xTB := x_t2 83 rfl rfl
theorem tw_324 : (Jvm.Cond.lays "java/lang/IllegalStateException" "java/lang/Throwable" "suppressedExceptions" "Ljava/util/List;") ∈ xTB := x_t2 84 rfl rfl
theorem tw_325 : (Jvm.Cond.lays "java/lang/IllegalStateException" "java/lang/Throwable" "detailMessage" "Ljava/lang/String;") ∈ xTB := x_t2 85 rfl rfl
theorem tw_326 : (Jvm.Cond.lays "java/lang/IllegalStateException" "java/lang/Throwable" "backtrace" "Ljava/lang/Object;") ∈ xTB := x_t2 86 rfl rfl
theorem tw_328 : (Jvm.Cond.methodLink "FileBuilder" (84 : Nat) ({ cls := "java/lang/IllegalStateException", name := "<init>", desc := "(Ljava/lang/String;)V" } : Jvm.MethodName)) ∈ xTB := x_t2 88 rfl rfl
theorem tw_329 : (Jvm.Cond.instanceMethod ({ cls := "java/lang/IllegalStateException", name := "<init>", desc := "(Ljava/lang/String;)V" } : Jvm.MethodName)) ∈ xTB := x_t2 89 rfl rfl
theorem tw_330 : (Jvm.Cond.code ({ cls := "java/lang/IllegalStateException", name := "<init>", desc := "(Ljava/lang/String;)V" } : Jvm.MethodName) prog_11_method_2_code (2 : Nat) (Option.none : Option Jvm.ClassFile.FieldType)) ∈ xTB := x_t2 90 rfl rfl
theorem tw_331 : (Jvm.Cond.methodLink "java/lang/IllegalStateException" (7 : Nat) ({ cls := "java/lang/RuntimeException", name := "<init>", desc := "(Ljava/lang/String;)V" } : Jvm.MethodName)) ∈ xTB := x_t2 91 rfl rfl
theorem tw_332 : (Jvm.Cond.lays "java/lang/IllegalStateException" "java/lang/Throwable" "depth" "I") ∈ xTB := x_t2 92 rfl rfl
theorem tw_336 : (Jvm.Cond.instanceMethod ({ cls := "FileBuilder$Graph", name := "addEdge", desc := "(III)I" } : Jvm.MethodName)) ∈ xTB := x_t2 96 rfl rfl
theorem tw_337 : (Jvm.Cond.code ({ cls := "FileBuilder$Graph", name := "addEdge", desc := "(III)I" } : Jvm.MethodName) prog_4_method_2_code (5 : Nat) (Option.some Jvm.ClassFile.FieldType.int)) ∈ xTB := x_t2 97 rfl rfl
theorem tw_338 : (Jvm.Cond.methodLink "FileBuilderLaw" (78 : Nat) ({ cls := "FileBuilderLaw", name := "link", desc := "(LFileBuilder;III)I" } : Jvm.MethodName)) ∈ xTB := x_t2 98 rfl rfl
theorem tw_339 : (Jvm.Cond.static ({ cls := "FileBuilderLaw", name := "link", desc := "(LFileBuilder;III)I" } : Jvm.MethodName)) ∈ xTB := x_t2 99 rfl rfl
theorem tw_340 : (Jvm.Cond.codeWith ({ cls := "FileBuilderLaw", name := "link", desc := "(LFileBuilder;III)I" } : Jvm.MethodName) method_4_code (5 : Nat) (Option.some Jvm.ClassFile.FieldType.int) [((0 : Nat), (7 : Nat), (10 : Nat), (13 : Nat)), ((0 : Nat), (7 : Nat), (14 : Nat), (15 : Nat))]) ∈ xTB := x_t2 100 rfl rfl
theorem tw_341 : (Jvm.Cond.methodLink "FileBuilderLaw" (17 : Nat) ({ cls := "FileBuilder", name := "link", desc := "(III)V" } : Jvm.MethodName)) ∈ xTB := x_t2 101 rfl rfl
theorem tw_342 : (Jvm.Cond.instanceMethod ({ cls := "FileBuilder", name := "link", desc := "(III)V" } : Jvm.MethodName)) ∈ xTB := x_t2 102 rfl rfl
theorem tw_343 : (Jvm.Cond.selects "FileBuilder" ({ cls := "FileBuilder", name := "link", desc := "(III)V" } : Jvm.MethodName) ({ cls := "FileBuilder", name := "link", desc := "(III)V" } : Jvm.MethodName)) ∈ xTB := x_t2 103 rfl rfl
theorem tw_344 : (Jvm.Cond.code ({ cls := "FileBuilder", name := "link", desc := "(III)V" } : Jvm.MethodName) prog_1_method_3_code (4 : Nat) (Option.none : Option Jvm.ClassFile.FieldType)) ∈ xTB := x_t2 104 rfl rfl
theorem tw_347 : (Jvm.Cond.instanceMethod ({ cls := "FileBuilder$Graph", name := "hasEdge", desc := "(I)Z" } : Jvm.MethodName)) ∈ xTB := x_t2 107 rfl rfl
theorem tw_348 : (Jvm.Cond.code ({ cls := "FileBuilder$Graph", name := "hasEdge", desc := "(I)Z" } : Jvm.MethodName) prog_4_method_3_code (2 : Nat) (Option.some Jvm.ClassFile.FieldType.boolean)) ∈ xTB := x_t2 108 rfl rfl
theorem tw_350 : (Jvm.Cond.methodLink "FileBuilder" (92 : Nat) ({ cls := "FileBuilder", name := "isFile", desc := "(I)Z" } : Jvm.MethodName)) ∈ xTB := x_t2 110 rfl rfl
theorem tw_351 : (Jvm.Cond.static ({ cls := "FileBuilder", name := "isFile", desc := "(I)Z" } : Jvm.MethodName)) ∈ xTB := x_t2 111 rfl rfl
theorem tw_352 : (Jvm.Cond.code ({ cls := "FileBuilder", name := "isFile", desc := "(I)Z" } : Jvm.MethodName) prog_1_method_20_code (1 : Nat) (Option.some Jvm.ClassFile.FieldType.boolean)) ∈ xTB := x_t2 112 rfl rfl
theorem tw_354 : (Jvm.Cond.methodLink "FileBuilder" (97 : Nat) ({ cls := "FileBuilder", name := "mayBecomeOutput", desc := "(II)Z" } : Jvm.MethodName)) ∈ xTB := x_t2 114 rfl rfl
theorem tw_356 : (Jvm.Cond.instanceMethod ({ cls := "FileBuilder", name := "mayBecomeOutput", desc := "(II)Z" } : Jvm.MethodName)) ∈ xTB := x_t2 116 rfl rfl
theorem tw_357 : (Jvm.Cond.code ({ cls := "FileBuilder", name := "mayBecomeOutput", desc := "(II)Z" } : Jvm.MethodName) prog_1_method_27_code (3 : Nat) (Option.some Jvm.ClassFile.FieldType.boolean)) ∈ xTB := x_t2 117 rfl rfl
theorem tw_360 : (Jvm.Cond.instanceMethod ({ cls := "FileBuilder$Graph", name := "made", desc := "()I" } : Jvm.MethodName)) ∈ xTB := x_t2 120 rfl rfl
theorem tw_361 : (Jvm.Cond.code ({ cls := "FileBuilder$Graph", name := "made", desc := "()I" } : Jvm.MethodName) prog_4_method_9_code (3 : Nat) (Option.some Jvm.ClassFile.FieldType.int)) ∈ xTB := x_t2 121 rfl rfl
theorem tw_362 : (Jvm.Cond.methodLink "FileBuilder" (116 : Nat) ({ cls := "FileBuilder", name := "has", desc := "(II)Z" } : Jvm.MethodName)) ∈ xTB := x_t2 122 rfl rfl
theorem tw_363 : (Jvm.Cond.static ({ cls := "FileBuilder", name := "has", desc := "(II)Z" } : Jvm.MethodName)) ∈ xTB := x_t2 123 rfl rfl
theorem tw_364 : (Jvm.Cond.code ({ cls := "FileBuilder", name := "has", desc := "(II)Z" } : Jvm.MethodName) prog_1_method_23_code (2 : Nat) (Option.some Jvm.ClassFile.FieldType.boolean)) ∈ xTB := x_t2 124 rfl rfl
theorem tw_367 : (Jvm.Cond.instanceMethod ({ cls := "FileBuilder$Graph", name := "read", desc := "()I" } : Jvm.MethodName)) ∈ xTB := x_t2 127 rfl rfl
theorem tw_368 : (Jvm.Cond.code ({ cls := "FileBuilder$Graph", name := "read", desc := "()I" } : Jvm.MethodName) prog_4_method_11_code (3 : Nat) (Option.some Jvm.ClassFile.FieldType.int)) ∈ xTB := x_t2 128 rfl rfl
theorem tw_373 : (Jvm.Cond.instanceMethod ({ cls := "FileBuilder$Graph", name := "join", desc := "(III)V" } : Jvm.MethodName)) ∈ xTB := x_t2 133 rfl rfl
theorem tw_374 : (Jvm.Cond.code ({ cls := "FileBuilder$Graph", name := "join", desc := "(III)V" } : Jvm.MethodName) prog_4_method_6_code (5 : Nat) (Option.none : Option Jvm.ClassFile.FieldType)) ∈ xTB := x_t2 134 rfl rfl
theorem tw_375 : (Jvm.Cond.methodLink "FileBuilderLaw" (82 : Nat) ({ cls := "FileBuilderLaw", name := "reads", desc := "(LFileBuilder;IIZ)I" } : Jvm.MethodName)) ∈ xTB := x_t2 135 rfl rfl
theorem tw_376 : (Jvm.Cond.static ({ cls := "FileBuilderLaw", name := "reads", desc := "(LFileBuilder;IIZ)I" } : Jvm.MethodName)) ∈ xTB := x_t2 136 rfl rfl
theorem tw_377 : (Jvm.Cond.codeWith ({ cls := "FileBuilderLaw", name := "reads", desc := "(LFileBuilder;IIZ)I" } : Jvm.MethodName) method_5_code (5 : Nat) (Option.some Jvm.ClassFile.FieldType.int) [((0 : Nat), (7 : Nat), (10 : Nat), (13 : Nat)), ((0 : Nat), (7 : Nat), (14 : Nat), (15 : Nat))]) ∈ xTB := x_t2 137 rfl rfl
theorem tw_378 : (Jvm.Cond.methodLink "FileBuilderLaw" (21 : Nat) ({ cls := "FileBuilder", name := "reads", desc := "(IIZ)V" } : Jvm.MethodName)) ∈ xTB := x_t2 138 rfl rfl
theorem tw_379 : (Jvm.Cond.instanceMethod ({ cls := "FileBuilder", name := "reads", desc := "(IIZ)V" } : Jvm.MethodName)) ∈ xTB := x_t2 139 rfl rfl
theorem tw_380 : (Jvm.Cond.selects "FileBuilder" ({ cls := "FileBuilder", name := "reads", desc := "(IIZ)V" } : Jvm.MethodName) ({ cls := "FileBuilder", name := "reads", desc := "(IIZ)V" } : Jvm.MethodName)) ∈ xTB := x_t2 140 rfl rfl
theorem tw_381 : (Jvm.Cond.code ({ cls := "FileBuilder", name := "reads", desc := "(IIZ)V" } : Jvm.MethodName) prog_1_method_4_code (4 : Nat) (Option.none : Option Jvm.ClassFile.FieldType)) ∈ xTB := x_t2 141 rfl rfl
theorem tw_384 : (Jvm.Cond.methodLink "FileBuilderLaw" (86 : Nat) ({ cls := "FileBuilderLaw", name := "command", desc := "(LFileBuilder;II)I" } : Jvm.MethodName)) ∈ xTB := x_t2 144 rfl rfl
theorem tw_385 : (Jvm.Cond.static ({ cls := "FileBuilderLaw", name := "command", desc := "(LFileBuilder;II)I" } : Jvm.MethodName)) ∈ xTB := x_t2 145 rfl rfl
theorem tw_386 : (Jvm.Cond.codeWith ({ cls := "FileBuilderLaw", name := "command", desc := "(LFileBuilder;II)I" } : Jvm.MethodName) method_6_code (4 : Nat) (Option.some Jvm.ClassFile.FieldType.int) [((0 : Nat), (6 : Nat), (9 : Nat), (13 : Nat)), ((0 : Nat), (6 : Nat), (12 : Nat), (15 : Nat))]) ∈ xTB := x_t2 146 rfl rfl
theorem tw_387 : (Jvm.Cond.methodLink "FileBuilderLaw" (25 : Nat) ({ cls := "FileBuilder", name := "command", desc := "(II)V" } : Jvm.MethodName)) ∈ xTB := x_t2 147 rfl rfl
theorem tw_388 : (Jvm.Cond.instanceMethod ({ cls := "FileBuilder", name := "command", desc := "(II)V" } : Jvm.MethodName)) ∈ xTB := x_t2 148 rfl rfl
theorem tw_389 : (Jvm.Cond.selects "FileBuilder" ({ cls := "FileBuilder", name := "command", desc := "(II)V" } : Jvm.MethodName) ({ cls := "FileBuilder", name := "command", desc := "(II)V" } : Jvm.MethodName)) ∈ xTB := x_t2 149 rfl rfl
theorem tw_390 : (Jvm.Cond.code ({ cls := "FileBuilder", name := "command", desc := "(II)V" } : Jvm.MethodName) prog_1_method_5_code (3 : Nat) (Option.none : Option Jvm.ClassFile.FieldType)) ∈ xTB := x_t2 150 rfl rfl
theorem tw_392 : (Jvm.Cond.methodLink "FileBuilder" (130 : Nat) ({ cls := "FileBuilder", name := "refuseUnderWay", desc := "()V" } : Jvm.MethodName)) ∈ xTB := x_t2 152 rfl rfl
theorem tw_394 : (Jvm.Cond.instanceMethod ({ cls := "FileBuilder", name := "refuseUnderWay", desc := "()V" } : Jvm.MethodName)) ∈ xTB := x_t2 154 rfl rfl
theorem tw_395 : (Jvm.Cond.code ({ cls := "FileBuilder", name := "refuseUnderWay", desc := "()V" } : Jvm.MethodName) prog_1_method_25_code (1 : Nat) (Option.none : Option Jvm.ClassFile.FieldType)) ∈ xTB := x_t2 155 rfl rfl
theorem tw_397 : (Jvm.Cond.methodLink "FileBuilderLaw" (90 : Nat) ({ cls := "FileBuilderLaw", name := "pool", desc := "(LFileBuilder;II)I" } : Jvm.MethodName)) ∈ xTB := x_t2 157 rfl rfl
theorem tw_398 : (Jvm.Cond.static ({ cls := "FileBuilderLaw", name := "pool", desc := "(LFileBuilder;II)I" } : Jvm.MethodName)) ∈ xTB := x_t2 158 rfl rfl
theorem tw_399 : (Jvm.Cond.codeWith ({ cls := "FileBuilderLaw", name := "pool", desc := "(LFileBuilder;II)I" } : Jvm.MethodName) method_7_code (4 : Nat) (Option.some Jvm.ClassFile.FieldType.int) [((0 : Nat), (6 : Nat), (9 : Nat), (13 : Nat)), ((0 : Nat), (6 : Nat), (12 : Nat), (15 : Nat))]) ∈ xTB := x_t2 159 rfl rfl
theorem tw_400 : (Jvm.Cond.methodLink "FileBuilderLaw" (29 : Nat) ({ cls := "FileBuilder", name := "pool", desc := "(II)V" } : Jvm.MethodName)) ∈ xTB := x_t2 160 rfl rfl
theorem tw_401 : (Jvm.Cond.instanceMethod ({ cls := "FileBuilder", name := "pool", desc := "(II)V" } : Jvm.MethodName)) ∈ xTB := x_t2 161 rfl rfl
theorem tw_402 : (Jvm.Cond.selects "FileBuilder" ({ cls := "FileBuilder", name := "pool", desc := "(II)V" } : Jvm.MethodName) ({ cls := "FileBuilder", name := "pool", desc := "(II)V" } : Jvm.MethodName)) ∈ xTB := x_t2 162 rfl rfl
theorem tw_403 : (Jvm.Cond.code ({ cls := "FileBuilder", name := "pool", desc := "(II)V" } : Jvm.MethodName) prog_1_method_6_code (3 : Nat) (Option.none : Option Jvm.ClassFile.FieldType)) ∈ xTB := x_t2 163 rfl rfl
theorem tw_405 : (Jvm.Cond.methodLink "FileBuilderLaw" (93 : Nat) ({ cls := "FileBuilderLaw", name := "write", desc := "(LFileBuilder;II)I" } : Jvm.MethodName)) ∈ xTB := x_t2 165 rfl rfl
theorem tw_406 : (Jvm.Cond.static ({ cls := "FileBuilderLaw", name := "write", desc := "(LFileBuilder;II)I" } : Jvm.MethodName)) ∈ xTB := x_t2 166 rfl rfl
theorem tw_407 : (Jvm.Cond.codeWith ({ cls := "FileBuilderLaw", name := "write", desc := "(LFileBuilder;II)I" } : Jvm.MethodName) method_8_code (4 : Nat) (Option.some Jvm.ClassFile.FieldType.int) [((0 : Nat), (6 : Nat), (9 : Nat), (13 : Nat)), ((0 : Nat), (6 : Nat), (12 : Nat), (15 : Nat))]) ∈ xTB := x_t2 167 rfl rfl
theorem tw_408 : (Jvm.Cond.methodLink "FileBuilderLaw" (32 : Nat) ({ cls := "FileBuilder", name := "write", desc := "(II)V" } : Jvm.MethodName)) ∈ xTB := x_t2 168 rfl rfl
theorem tw_409 : (Jvm.Cond.instanceMethod ({ cls := "FileBuilder", name := "write", desc := "(II)V" } : Jvm.MethodName)) ∈ xTB := x_t2 169 rfl rfl
theorem tw_410 : (Jvm.Cond.selects "FileBuilder" ({ cls := "FileBuilder", name := "write", desc := "(II)V" } : Jvm.MethodName) ({ cls := "FileBuilder", name := "write", desc := "(II)V" } : Jvm.MethodName)) ∈ xTB := x_t2 170 rfl rfl
theorem tw_411 : (Jvm.Cond.code ({ cls := "FileBuilder", name := "write", desc := "(II)V" } : Jvm.MethodName) prog_1_method_7_code (3 : Nat) (Option.none : Option Jvm.ClassFile.FieldType)) ∈ xTB := x_t2 171 rfl rfl
theorem tw_414 : (Jvm.Cond.instanceMethod ({ cls := "FileBuilder$Graph", name := "madeByPhonies", desc := "()I" } : Jvm.MethodName)) ∈ xTB := x_t2 174 rfl rfl
theorem tw_415 : (Jvm.Cond.code ({ cls := "FileBuilder$Graph", name := "madeByPhonies", desc := "()I" } : Jvm.MethodName) prog_4_method_10_code (3 : Nat) (Option.some Jvm.ClassFile.FieldType.int)) ∈ xTB := x_t2 175 rfl rfl
theorem tw_419 : (Jvm.Cond.instanceMethod ({ cls := "FileBuilder$Disk", name := "put", desc := "(II)V" } : Jvm.MethodName)) ∈ xTB := x_t2 179 rfl rfl
theorem tw_420 : (Jvm.Cond.code ({ cls := "FileBuilder$Disk", name := "put", desc := "(II)V" } : Jvm.MethodName) prog_3_method_2_code (3 : Nat) (Option.none : Option Jvm.ClassFile.FieldType)) ∈ xTB := x_t2 180 rfl rfl
theorem tw_421 : (Jvm.Cond.methodLink "FileBuilderLaw" (96 : Nat) ({ cls := "FileBuilderLaw", name := "remove", desc := "(LFileBuilder;I)I" } : Jvm.MethodName)) ∈ xTB := x_t2 181 rfl rfl
theorem tw_422 : (Jvm.Cond.static ({ cls := "FileBuilderLaw", name := "remove", desc := "(LFileBuilder;I)I" } : Jvm.MethodName)) ∈ xTB := x_t2 182 rfl rfl
theorem tw_423 : (Jvm.Cond.codeWith ({ cls := "FileBuilderLaw", name := "remove", desc := "(LFileBuilder;I)I" } : Jvm.MethodName) method_9_code (3 : Nat) (Option.some Jvm.ClassFile.FieldType.int) [((0 : Nat), (5 : Nat), (8 : Nat), (13 : Nat)), ((0 : Nat), (5 : Nat), (11 : Nat), (39 : Nat)), ((0 : Nat), (5 : Nat), (14 : Nat), (15 : Nat))]) ∈ xTB := x_t2 183 rfl rfl
theorem tw_424 : (Jvm.Cond.classLink "FileBuilderLaw" (39 : Nat) "java/util/NoSuchElementException") ∈ xTB := x_t2 184 rfl rfl
theorem tw_425 : (Jvm.Cond.methodLink "FileBuilderLaw" (35 : Nat) ({ cls := "FileBuilder", name := "remove", desc := "(I)V" } : Jvm.MethodName)) ∈ xTB := x_t2 185 rfl rfl
theorem tw_426 : (Jvm.Cond.instanceMethod ({ cls := "FileBuilder", name := "remove", desc := "(I)V" } : Jvm.MethodName)) ∈ xTB := x_t2 186 rfl rfl
theorem tw_427 : (Jvm.Cond.selects "FileBuilder" ({ cls := "FileBuilder", name := "remove", desc := "(I)V" } : Jvm.MethodName) ({ cls := "FileBuilder", name := "remove", desc := "(I)V" } : Jvm.MethodName)) ∈ xTB := x_t2 187 rfl rfl
theorem tw_428 : (Jvm.Cond.code ({ cls := "FileBuilder", name := "remove", desc := "(I)V" } : Jvm.MethodName) prog_1_method_8_code (2 : Nat) (Option.none : Option Jvm.ClassFile.FieldType)) ∈ xTB := x_t2 188 rfl rfl
theorem tw_430 : (Jvm.Cond.classLink "FileBuilder" (149 : Nat) "java/util/NoSuchElementException") ∈ xTB := x_t2 190 rfl rfl
theorem tw_431 : (Jvm.Cond.instantiable "java/util/NoSuchElementException" (6 : Nat)) ∈ xTB := x_t2 191 rfl rfl
theorem tw_433 : (Jvm.Cond.selects "java/util/NoSuchElementException" ({ cls := "java/lang/Throwable", name := "fillInStackTrace", desc := "(I)Ljava/lang/Throwable;" } : Jvm.MethodName) ({ cls := "java/lang/Throwable", name := "fillInStackTrace", desc := "(I)Ljava/lang/Throwable;" } : Jvm.MethodName)) ∈ xTB := x_t2 193 rfl rfl
theorem tw_434 : (Jvm.Cond.lays "java/util/NoSuchElementException" "java/lang/Throwable" "cause" "Ljava/lang/Throwable;") ∈ xTB := x_t2 194 rfl rfl
theorem tw_435 : (Jvm.Cond.lays "java/util/NoSuchElementException" "java/lang/Throwable" "stackTrace" "[Ljava/lang/StackTraceElement;") ∈ xTB := x_t2 195 rfl rfl
theorem tw_436 : (Jvm.Cond.lays "java/util/NoSuchElementException" "java/lang/Throwable" "suppressedExceptions" "Ljava/util/List;") ∈ xTB := x_t2 196 rfl rfl
theorem tw_437 : (Jvm.Cond.lays "java/util/NoSuchElementException" "java/lang/Throwable" "detailMessage" "Ljava/lang/String;") ∈ xTB := x_t2 197 rfl rfl
theorem tw_438 : (Jvm.Cond.lays "java/util/NoSuchElementException" "java/lang/Throwable" "backtrace" "Ljava/lang/Object;") ∈ xTB := x_t2 198 rfl rfl
theorem tw_440 : (Jvm.Cond.methodLink "FileBuilder" (153 : Nat) ({ cls := "java/util/NoSuchElementException", name := "<init>", desc := "(Ljava/lang/String;)V" } : Jvm.MethodName)) ∈ xTB := x_t2 200 rfl rfl
theorem tw_441 : (Jvm.Cond.instanceMethod ({ cls := "java/util/NoSuchElementException", name := "<init>", desc := "(Ljava/lang/String;)V" } : Jvm.MethodName)) ∈ xTB := x_t2 201 rfl rfl
theorem tw_442 : (Jvm.Cond.code ({ cls := "java/util/NoSuchElementException", name := "<init>", desc := "(Ljava/lang/String;)V" } : Jvm.MethodName) prog_18_method_4_code (2 : Nat) (Option.none : Option Jvm.ClassFile.FieldType)) ∈ xTB := x_t2 202 rfl rfl
theorem tw_443 : (Jvm.Cond.methodLink "java/util/NoSuchElementException" (13 : Nat) ({ cls := "java/lang/RuntimeException", name := "<init>", desc := "(Ljava/lang/String;)V" } : Jvm.MethodName)) ∈ xTB := x_t2 203 rfl rfl
theorem tw_444 : (Jvm.Cond.lays "java/util/NoSuchElementException" "java/lang/Throwable" "depth" "I") ∈ xTB := x_t2 204 rfl rfl
theorem tw_448 : (Jvm.Cond.instanceMethod ({ cls := "FileBuilder$Disk", name := "erase", desc := "(I)V" } : Jvm.MethodName)) ∈ xTB := x_t2 208 rfl rfl
theorem tw_449 : (Jvm.Cond.code ({ cls := "FileBuilder$Disk", name := "erase", desc := "(I)V" } : Jvm.MethodName) prog_3_method_3_code (2 : Nat) (Option.none : Option Jvm.ClassFile.FieldType)) ∈ xTB := x_t2 209 rfl rfl
theorem tw_450 : (Jvm.Cond.methodLink "FileBuilderLaw" (100 : Nat) ({ cls := "FileBuilderLaw", name := "begin", desc := "(LFileBuilder;III[J)I" } : Jvm.MethodName)) ∈ xTB := x_t2 210 rfl rfl
theorem tw_451 : (Jvm.Cond.static ({ cls := "FileBuilderLaw", name := "begin", desc := "(LFileBuilder;III[J)I" } : Jvm.MethodName)) ∈ xTB := x_t2 211 rfl rfl
theorem tw_452 : (Jvm.Cond.codeWith ({ cls := "FileBuilderLaw", name := "begin", desc := "(LFileBuilder;III[J)I" } : Jvm.MethodName) method_10_code (6 : Nat) (Option.some Jvm.ClassFile.FieldType.int) [((0 : Nat), (12 : Nat), (15 : Nat), (13 : Nat)), ((0 : Nat), (12 : Nat), (19 : Nat), (15 : Nat)), ((0 : Nat), (12 : Nat), (23 : Nat), (44 : Nat)), ((0 : Nat), (12 : Nat), (27 : Nat), (39 : Nat))]) ∈ xTB := x_t2 212 rfl rfl
theorem tw_453 : (Jvm.Cond.classLink "FileBuilderLaw" (44 : Nat) "java/lang/UnsupportedOperationException") ∈ xTB := x_t2 213 rfl rfl
theorem tw_454 : (Jvm.Cond.methodLink "FileBuilderLaw" (41 : Nat) ({ cls := "FileBuilder", name := "begin", desc := "(III)I" } : Jvm.MethodName)) ∈ xTB := x_t2 214 rfl rfl
theorem tw_455 : (Jvm.Cond.instanceMethod ({ cls := "FileBuilder", name := "begin", desc := "(III)I" } : Jvm.MethodName)) ∈ xTB := x_t2 215 rfl rfl
theorem tw_456 : (Jvm.Cond.selects "FileBuilder" ({ cls := "FileBuilder", name := "begin", desc := "(III)I" } : Jvm.MethodName) ({ cls := "FileBuilder", name := "begin", desc := "(III)I" } : Jvm.MethodName)) ∈ xTB := x_t2 216 rfl rfl
theorem tw_457 : (Jvm.Cond.code ({ cls := "FileBuilder", name := "begin", desc := "(III)I" } : Jvm.MethodName) prog_1_method_9_code (5 : Nat) (Option.some Jvm.ClassFile.FieldType.int)) ∈ xTB := x_t2 217 rfl rfl
theorem tw_458 : (Jvm.Cond.constant "FileBuilder" (158 : Nat) (-16777216 : Int32)) ∈ xTB := x_t2 218 rfl rfl
theorem tw_462 : (Jvm.Cond.instanceMethod ({ cls := "FileBuilder$Graph", name := "reachedFrom", desc := "(I)I" } : Jvm.MethodName)) ∈ xTB := x_t2 222 rfl rfl
theorem tw_463 : (Jvm.Cond.code ({ cls := "FileBuilder$Graph", name := "reachedFrom", desc := "(I)I" } : Jvm.MethodName) prog_4_method_15_code (4 : Nat) (Option.some Jvm.ClassFile.FieldType.int)) ∈ xTB := x_t2 223 rfl rfl
theorem tw_464 : (Jvm.Cond.methodLink "FileBuilder$Graph" (55 : Nat) ({ cls := "FileBuilder$Graph", name := "makersOf", desc := "(I)I" } : Jvm.MethodName)) ∈ xTB := x_t2 224 rfl rfl
theorem tw_466 : (Jvm.Cond.instanceMethod ({ cls := "FileBuilder$Graph", name := "makersOf", desc := "(I)I" } : Jvm.MethodName)) ∈ xTB := x_t2 226 rfl rfl
theorem tw_467 : (Jvm.Cond.code ({ cls := "FileBuilder$Graph", name := "makersOf", desc := "(I)I" } : Jvm.MethodName) prog_4_method_13_code (4 : Nat) (Option.some Jvm.ClassFile.FieldType.int)) ∈ xTB := x_t2 227 rfl rfl
theorem tw_468 : (Jvm.Cond.methodLink "FileBuilder$Graph" (58 : Nat) ({ cls := "FileBuilder$Graph", name := "waitedForBy", desc := "(I)I" } : Jvm.MethodName)) ∈ xTB := x_t2 228 rfl rfl
theorem tw_470 : (Jvm.Cond.instanceMethod ({ cls := "FileBuilder$Graph", name := "waitedForBy", desc := "(I)I" } : Jvm.MethodName)) ∈ xTB := x_t2 230 rfl rfl
theorem tw_471 : (Jvm.Cond.code ({ cls := "FileBuilder$Graph", name := "waitedForBy", desc := "(I)I" } : Jvm.MethodName) prog_4_method_14_code (4 : Nat) (Option.some Jvm.ClassFile.FieldType.int)) ∈ xTB := x_t2 231 rfl rfl
theorem tw_475 : (Jvm.Cond.instanceMethod ({ cls := "FileBuilder$Graph", name := "hasCycle", desc := "(I)Z" } : Jvm.MethodName)) ∈ xTB := x_t2 235 rfl rfl
theorem tw_476 : (Jvm.Cond.code ({ cls := "FileBuilder$Graph", name := "hasCycle", desc := "(I)Z" } : Jvm.MethodName) prog_4_method_17_code (5 : Nat) (Option.some Jvm.ClassFile.FieldType.boolean)) ∈ xTB := x_t2 236 rfl rfl
theorem tw_477 : (Jvm.Cond.methodLink "FileBuilder$Graph" (61 : Nat) ({ cls := "FileBuilder$Graph", name := "nextToLookAt", desc := "(II)I" } : Jvm.MethodName)) ∈ xTB := x_t2 237 rfl rfl
theorem tw_479 : (Jvm.Cond.instanceMethod ({ cls := "FileBuilder$Graph", name := "nextToLookAt", desc := "(II)I" } : Jvm.MethodName)) ∈ xTB := x_t2 239 rfl rfl
theorem tw_480 : (Jvm.Cond.code ({ cls := "FileBuilder$Graph", name := "nextToLookAt", desc := "(II)I" } : Jvm.MethodName) prog_4_method_16_code (4 : Nat) (Option.some Jvm.ClassFile.FieldType.int)) ∈ xTB := x_t3 0 rfl rfl
theorem tw_481 : (Jvm.Cond.classLink "FileBuilder" (168 : Nat) "java/lang/UnsupportedOperationException") ∈ xTB := x_t3 1 rfl rfl
theorem tw_482 : (Jvm.Cond.instantiable "java/lang/UnsupportedOperationException" (6 : Nat)) ∈ xTB := x_t3 2 rfl rfl
theorem tw_484 : (Jvm.Cond.selects "java/lang/UnsupportedOperationException" ({ cls := "java/lang/Throwable", name := "fillInStackTrace", desc := "(I)Ljava/lang/Throwable;" } : Jvm.MethodName) ({ cls := "java/lang/Throwable", name := "fillInStackTrace", desc := "(I)Ljava/lang/Throwable;" } : Jvm.MethodName)) ∈ xTB := x_t3 4 rfl rfl
theorem tw_485 : (Jvm.Cond.lays "java/lang/UnsupportedOperationException" "java/lang/Throwable" "cause" "Ljava/lang/Throwable;") ∈ xTB := x_t3 5 rfl rfl
theorem tw_486 : (Jvm.Cond.lays "java/lang/UnsupportedOperationException" "java/lang/Throwable" "stackTrace" "[Ljava/lang/StackTraceElement;") ∈ xTB := x_t3 6 rfl rfl
theorem tw_487 : (Jvm.Cond.lays "java/lang/UnsupportedOperationException" "java/lang/Throwable" "suppressedExceptions" "Ljava/util/List;") ∈ xTB := x_t3 7 rfl rfl
theorem tw_488 : (Jvm.Cond.lays "java/lang/UnsupportedOperationException" "java/lang/Throwable" "detailMessage" "Ljava/lang/String;") ∈ xTB := x_t3 8 rfl rfl
theorem tw_489 : (Jvm.Cond.lays "java/lang/UnsupportedOperationException" "java/lang/Throwable" "backtrace" "Ljava/lang/Object;") ∈ xTB := x_t3 9 rfl rfl
theorem tw_491 : (Jvm.Cond.methodLink "FileBuilder" (172 : Nat) ({ cls := "java/lang/UnsupportedOperationException", name := "<init>", desc := "(Ljava/lang/String;)V" } : Jvm.MethodName)) ∈ xTB := x_t3 11 rfl rfl
theorem tw_492 : (Jvm.Cond.instanceMethod ({ cls := "java/lang/UnsupportedOperationException", name := "<init>", desc := "(Ljava/lang/String;)V" } : Jvm.MethodName)) ∈ xTB := x_t3 12 rfl rfl
theorem tw_493 : (Jvm.Cond.code ({ cls := "java/lang/UnsupportedOperationException", name := "<init>", desc := "(Ljava/lang/String;)V" } : Jvm.MethodName) prog_16_method_2_code (2 : Nat) (Option.none : Option Jvm.ClassFile.FieldType)) ∈ xTB := x_t3 13 rfl rfl
theorem tw_494 : (Jvm.Cond.methodLink "java/lang/UnsupportedOperationException" (7 : Nat) ({ cls := "java/lang/RuntimeException", name := "<init>", desc := "(Ljava/lang/String;)V" } : Jvm.MethodName)) ∈ xTB := x_t3 14 rfl rfl
theorem tw_495 : (Jvm.Cond.lays "java/lang/UnsupportedOperationException" "java/lang/Throwable" "depth" "I") ∈ xTB := x_t3 15 rfl rfl
theorem tw_498 : (Jvm.Cond.methodLink "FileBuilder" (176 : Nat) ({ cls := "FileBuilder", name := "isMissing", desc := "(I)Z" } : Jvm.MethodName)) ∈ xTB := x_t3 18 rfl rfl
theorem tw_500 : (Jvm.Cond.instanceMethod ({ cls := "FileBuilder", name := "isMissing", desc := "(I)Z" } : Jvm.MethodName)) ∈ xTB := x_t3 20 rfl rfl
theorem tw_501 : (Jvm.Cond.code ({ cls := "FileBuilder", name := "isMissing", desc := "(I)Z" } : Jvm.MethodName) prog_1_method_28_code (2 : Nat) (Option.some Jvm.ClassFile.FieldType.boolean)) ∈ xTB := x_t3 21 rfl rfl
theorem tw_505 : (Jvm.Cond.instanceMethod ({ cls := "FileBuilder$Build", name := "renew", desc := "(II)V" } : Jvm.MethodName)) ∈ xTB := x_t3 25 rfl rfl
theorem tw_506 : (Jvm.Cond.code ({ cls := "FileBuilder$Build", name := "renew", desc := "(II)V" } : Jvm.MethodName) prog_2_method_5_code (3 : Nat) (Option.none : Option Jvm.ClassFile.FieldType)) ∈ xTB := x_t3 26 rfl rfl
theorem tw_507 : (Jvm.Cond.methodLink "FileBuilder$Build" (19 : Nat) ({ cls := "java/util/Arrays", name := "fill", desc := "([II)V" } : Jvm.MethodName)) ∈ xTB := x_t3 27 rfl rfl
theorem tw_508 : (Jvm.Cond.methodLink "FileBuilder" (184 : Nat) ({ cls := "FileBuilder", name := "findWhatIsToRun", desc := "(I)V" } : Jvm.MethodName)) ∈ xTB := x_t3 28 rfl rfl
theorem tw_510 : (Jvm.Cond.instanceMethod ({ cls := "FileBuilder", name := "findWhatIsToRun", desc := "(I)V" } : Jvm.MethodName)) ∈ xTB := x_t3 30 rfl rfl
theorem tw_511 : (Jvm.Cond.code ({ cls := "FileBuilder", name := "findWhatIsToRun", desc := "(I)V" } : Jvm.MethodName) prog_1_method_29_code (5 : Nat) (Option.none : Option Jvm.ClassFile.FieldType)) ∈ xTB := x_t3 31 rfl rfl
theorem tw_513 : (Jvm.Cond.methodLink "FileBuilder" (256 : Nat) ({ cls := "FileBuilder", name := "isOutOfDate", desc := "(I)Z" } : Jvm.MethodName)) ∈ xTB := x_t3 33 rfl rfl
theorem tw_515 : (Jvm.Cond.instanceMethod ({ cls := "FileBuilder", name := "isOutOfDate", desc := "(I)Z" } : Jvm.MethodName)) ∈ xTB := x_t3 35 rfl rfl
theorem tw_516 : (Jvm.Cond.code ({ cls := "FileBuilder", name := "isOutOfDate", desc := "(I)Z" } : Jvm.MethodName) prog_1_method_30_code (2 : Nat) (Option.some Jvm.ClassFile.FieldType.boolean)) ∈ xTB := x_t3 36 rfl rfl
theorem tw_518 : (Jvm.Cond.methodLink "FileBuilder" (280 : Nat) ({ cls := "FileBuilder", name := "isUnknownToLog", desc := "(I)Z" } : Jvm.MethodName)) ∈ xTB := x_t3 38 rfl rfl
theorem tw_520 : (Jvm.Cond.instanceMethod ({ cls := "FileBuilder", name := "isUnknownToLog", desc := "(I)Z" } : Jvm.MethodName)) ∈ xTB := x_t3 40 rfl rfl
theorem tw_521 : (Jvm.Cond.code ({ cls := "FileBuilder", name := "isUnknownToLog", desc := "(I)Z" } : Jvm.MethodName) prog_1_method_31_code (3 : Nat) (Option.some Jvm.ClassFile.FieldType.boolean)) ∈ xTB := x_t3 41 rfl rfl
theorem tw_522 : (Jvm.Cond.methodLink "FileBuilder" (283 : Nat) ({ cls := "FileBuilder", name := "newest", desc := "(I)I" } : Jvm.MethodName)) ∈ xTB := x_t3 42 rfl rfl
theorem tw_524 : (Jvm.Cond.instanceMethod ({ cls := "FileBuilder", name := "newest", desc := "(I)I" } : Jvm.MethodName)) ∈ xTB := x_t3 44 rfl rfl
theorem tw_525 : (Jvm.Cond.code ({ cls := "FileBuilder", name := "newest", desc := "(I)I" } : Jvm.MethodName) prog_1_method_33_code (2 : Nat) (Option.some Jvm.ClassFile.FieldType.int)) ∈ xTB := x_t3 45 rfl rfl
theorem tw_528 : (Jvm.Cond.instanceMethod ({ cls := "FileBuilder$Disk", name := "greatestTime", desc := "(I)I" } : Jvm.MethodName)) ∈ xTB := x_t3 48 rfl rfl
theorem tw_529 : (Jvm.Cond.code ({ cls := "FileBuilder$Disk", name := "greatestTime", desc := "(I)I" } : Jvm.MethodName) prog_3_method_4_code (4 : Nat) (Option.some Jvm.ClassFile.FieldType.int)) ∈ xTB := x_t3 49 rfl rfl
theorem tw_531 : (Jvm.Cond.methodLink "FileBuilder$Disk" (29 : Nat) ({ cls := "java/lang/Math", name := "max", desc := "(II)I" } : Jvm.MethodName)) ∈ xTB := x_t3 51 rfl rfl
theorem tw_532 : (Jvm.Cond.static ({ cls := "java/lang/Math", name := "max", desc := "(II)I" } : Jvm.MethodName)) ∈ xTB := x_t3 52 rfl rfl
theorem tw_533 : (Jvm.Cond.code ({ cls := "java/lang/Math", name := "max", desc := "(II)I" } : Jvm.MethodName) prog_12_method_65_code (2 : Nat) (Option.some Jvm.ClassFile.FieldType.int)) ∈ xTB := x_t3 53 rfl rfl
theorem tw_534 : (Jvm.Cond.methodLink "FileBuilder" (286 : Nat) ({ cls := "FileBuilder", name := "isOlderThan", desc := "(II)Z" } : Jvm.MethodName)) ∈ xTB := x_t3 54 rfl rfl
theorem tw_536 : (Jvm.Cond.instanceMethod ({ cls := "FileBuilder", name := "isOlderThan", desc := "(II)Z" } : Jvm.MethodName)) ∈ xTB := x_t3 56 rfl rfl
theorem tw_537 : (Jvm.Cond.code ({ cls := "FileBuilder", name := "isOlderThan", desc := "(II)Z" } : Jvm.MethodName) prog_1_method_32_code (4 : Nat) (Option.some Jvm.ClassFile.FieldType.boolean)) ∈ xTB := x_t3 57 rfl rfl
theorem tw_540 : (Jvm.Cond.instanceMethod ({ cls := "FileBuilder$RecordLog", name := "reaches", desc := "(II)Z" } : Jvm.MethodName)) ∈ xTB := x_t3 60 rfl rfl
theorem tw_541 : (Jvm.Cond.code ({ cls := "FileBuilder$RecordLog", name := "reaches", desc := "(II)Z" } : Jvm.MethodName) prog_6_method_4_code (3 : Nat) (Option.some Jvm.ClassFile.FieldType.boolean)) ∈ xTB := x_t3 61 rfl rfl
theorem tw_542 : (Jvm.Cond.methodLink "FileBuilder$RecordLog" (35 : Nat) ({ cls := "FileBuilder$RecordLog", name := "hasRecord", desc := "(I)Z" } : Jvm.MethodName)) ∈ xTB := x_t3 62 rfl rfl
theorem tw_544 : (Jvm.Cond.instanceMethod ({ cls := "FileBuilder$RecordLog", name := "hasRecord", desc := "(I)Z" } : Jvm.MethodName)) ∈ xTB := x_t3 64 rfl rfl
theorem tw_545 : (Jvm.Cond.code ({ cls := "FileBuilder$RecordLog", name := "hasRecord", desc := "(I)Z" } : Jvm.MethodName) prog_6_method_3_code (2 : Nat) (Option.some Jvm.ClassFile.FieldType.boolean)) ∈ xTB := x_t3 65 rfl rfl
theorem tw_546 : (Jvm.Cond.methodLink "FileBuilder" (187 : Nat) ({ cls := "FileBuilder", name := "settle", desc := "()V" } : Jvm.MethodName)) ∈ xTB := x_t3 66 rfl rfl
theorem tw_548 : (Jvm.Cond.instanceMethod ({ cls := "FileBuilder", name := "settle", desc := "()V" } : Jvm.MethodName)) ∈ xTB := x_t3 68 rfl rfl
theorem tw_549 : (Jvm.Cond.code ({ cls := "FileBuilder", name := "settle", desc := "()V" } : Jvm.MethodName) prog_1_method_37_code (1 : Nat) (Option.none : Option Jvm.ClassFile.FieldType)) ∈ xTB := x_t3 69 rfl rfl
theorem tw_550 : (Jvm.Cond.methodLink "FileBuilderLaw" (107 : Nat) ({ cls := "FileBuilderLaw", name := "finish", desc := "(LFileBuilder;IZ[J)I" } : Jvm.MethodName)) ∈ xTB := x_t3 70 rfl rfl
theorem tw_551 : (Jvm.Cond.static ({ cls := "FileBuilderLaw", name := "finish", desc := "(LFileBuilder;IZ[J)I" } : Jvm.MethodName)) ∈ xTB := x_t3 71 rfl rfl
theorem tw_552 : (Jvm.Cond.codeWith ({ cls := "FileBuilderLaw", name := "finish", desc := "(LFileBuilder;IZ[J)I" } : Jvm.MethodName) method_11_code (5 : Nat) (Option.some Jvm.ClassFile.FieldType.int) [((0 : Nat), (10 : Nat), (13 : Nat), (39 : Nat))]) ∈ xTB := x_t3 72 rfl rfl
theorem tw_553 : (Jvm.Cond.methodLink "FileBuilderLaw" (46 : Nat) ({ cls := "FileBuilder", name := "finish", desc := "(IZ)I" } : Jvm.MethodName)) ∈ xTB := x_t3 73 rfl rfl
theorem tw_554 : (Jvm.Cond.instanceMethod ({ cls := "FileBuilder", name := "finish", desc := "(IZ)I" } : Jvm.MethodName)) ∈ xTB := x_t3 74 rfl rfl
theorem tw_555 : (Jvm.Cond.selects "FileBuilder" ({ cls := "FileBuilder", name := "finish", desc := "(IZ)I" } : Jvm.MethodName) ({ cls := "FileBuilder", name := "finish", desc := "(IZ)I" } : Jvm.MethodName)) ∈ xTB := x_t3 75 rfl rfl
theorem tw_556 : (Jvm.Cond.code ({ cls := "FileBuilder", name := "finish", desc := "(IZ)I" } : Jvm.MethodName) prog_1_method_11_code (4 : Nat) (Option.some Jvm.ClassFile.FieldType.int)) ∈ xTB := x_t3 76 rfl rfl
theorem tw_558 : (Jvm.Cond.methodLink "FileBuilder" (201 : Nat) ({ cls := "FileBuilder", name := "endWell", desc := "(I)V" } : Jvm.MethodName)) ∈ xTB := x_t3 78 rfl rfl
theorem tw_560 : (Jvm.Cond.instanceMethod ({ cls := "FileBuilder", name := "endWell", desc := "(I)V" } : Jvm.MethodName)) ∈ xTB := x_t3 80 rfl rfl
theorem tw_561 : (Jvm.Cond.code ({ cls := "FileBuilder", name := "endWell", desc := "(I)V" } : Jvm.MethodName) prog_1_method_38_code (4 : Nat) (Option.none : Option Jvm.ClassFile.FieldType)) ∈ xTB := x_t3 81 rfl rfl
theorem tw_562 : (Jvm.Cond.methodLink "FileBuilder" (310 : Nat) ({ cls := "FileBuilder", name := "writeOutputs", desc := "(I)V" } : Jvm.MethodName)) ∈ xTB := x_t3 82 rfl rfl
theorem tw_564 : (Jvm.Cond.instanceMethod ({ cls := "FileBuilder", name := "writeOutputs", desc := "(I)V" } : Jvm.MethodName)) ∈ xTB := x_t3 84 rfl rfl
theorem tw_565 : (Jvm.Cond.code ({ cls := "FileBuilder", name := "writeOutputs", desc := "(I)V" } : Jvm.MethodName) prog_1_method_39_code (6 : Nat) (Option.none : Option Jvm.ClassFile.FieldType)) ∈ xTB := x_t3 85 rfl rfl
theorem tw_566 : (Jvm.Cond.methodLink "FileBuilder" (319 : Nat) ({ cls := "FileBuilder", name := "mixOfWhatIsRead", desc := "(I)I" } : Jvm.MethodName)) ∈ xTB := x_t3 86 rfl rfl
theorem tw_568 : (Jvm.Cond.instanceMethod ({ cls := "FileBuilder", name := "mixOfWhatIsRead", desc := "(I)I" } : Jvm.MethodName)) ∈ xTB := x_t3 88 rfl rfl
theorem tw_569 : (Jvm.Cond.code ({ cls := "FileBuilder", name := "mixOfWhatIsRead", desc := "(I)I" } : Jvm.MethodName) prog_1_method_40_code (5 : Nat) (Option.some Jvm.ClassFile.FieldType.int)) ∈ xTB := x_t3 89 rfl rfl
theorem tw_571 : (Jvm.Cond.methodLink "FileBuilder" (322 : Nat) ({ cls := "FileBuilder", name := "mix", desc := "(II)I" } : Jvm.MethodName)) ∈ xTB := x_t3 91 rfl rfl
theorem tw_572 : (Jvm.Cond.static ({ cls := "FileBuilder", name := "mix", desc := "(II)I" } : Jvm.MethodName)) ∈ xTB := x_t3 92 rfl rfl
theorem tw_573 : (Jvm.Cond.code ({ cls := "FileBuilder", name := "mix", desc := "(II)I" } : Jvm.MethodName) prog_1_method_24_code (3 : Nat) (Option.some Jvm.ClassFile.FieldType.int)) ∈ xTB := x_t3 93 rfl rfl
theorem tw_574 : (Jvm.Cond.constant "FileBuilder" (244 : Nat) (73244475 : Int32)) ∈ xTB := x_t3 94 rfl rfl
theorem tw_577 : (Jvm.Cond.instanceMethod ({ cls := "FileBuilder$Readings", name := "keep", desc := "(II)V" } : Jvm.MethodName)) ∈ xTB := x_t3 97 rfl rfl
theorem tw_578 : (Jvm.Cond.code ({ cls := "FileBuilder$Readings", name := "keep", desc := "(II)V" } : Jvm.MethodName) prog_5_method_2_code (3 : Nat) (Option.none : Option Jvm.ClassFile.FieldType)) ∈ xTB := x_t3 98 rfl rfl
theorem tw_581 : (Jvm.Cond.instanceMethod ({ cls := "FileBuilder$RecordLog", name := "append", desc := "(III)V" } : Jvm.MethodName)) ∈ xTB := x_t3 101 rfl rfl
theorem tw_582 : (Jvm.Cond.code ({ cls := "FileBuilder$RecordLog", name := "append", desc := "(III)V" } : Jvm.MethodName) prog_6_method_5_code (4 : Nat) (Option.none : Option Jvm.ClassFile.FieldType)) ∈ xTB := x_t3 102 rfl rfl
theorem tw_583 : (Jvm.Cond.methodLink "FileBuilder$RecordLog" (39 : Nat) ({ cls := "FileBuilder$RecordLog", name := "writeAnew", desc := "()V" } : Jvm.MethodName)) ∈ xTB := x_t3 103 rfl rfl
theorem tw_585 : (Jvm.Cond.instanceMethod ({ cls := "FileBuilder$RecordLog", name := "writeAnew", desc := "()V" } : Jvm.MethodName)) ∈ xTB := x_t3 105 rfl rfl
theorem tw_586 : (Jvm.Cond.code ({ cls := "FileBuilder$RecordLog", name := "writeAnew", desc := "()V" } : Jvm.MethodName) prog_6_method_6_code (2 : Nat) (Option.none : Option Jvm.ClassFile.FieldType)) ∈ xTB := x_t3 106 rfl rfl
theorem tw_587 : (Jvm.Cond.methodLink "FileBuilder$RecordLog" (42 : Nat) ({ cls := "FileBuilder$RecordLog", name := "addBytes", desc := "(I)V" } : Jvm.MethodName)) ∈ xTB := x_t3 107 rfl rfl
theorem tw_589 : (Jvm.Cond.instanceMethod ({ cls := "FileBuilder$RecordLog", name := "addBytes", desc := "(I)V" } : Jvm.MethodName)) ∈ xTB := x_t3 109 rfl rfl
theorem tw_590 : (Jvm.Cond.code ({ cls := "FileBuilder$RecordLog", name := "addBytes", desc := "(I)V" } : Jvm.MethodName) prog_6_method_7_code (2 : Nat) (Option.none : Option Jvm.ClassFile.FieldType)) ∈ xTB := x_t3 110 rfl rfl
theorem tw_591 : (Jvm.Cond.methodLink "FileBuilder$RecordLog" (46 : Nat) ({ cls := "FileBuilder$RecordLog", name := "checkOf", desc := "(I)I" } : Jvm.MethodName)) ∈ xTB := x_t3 111 rfl rfl
theorem tw_593 : (Jvm.Cond.instanceMethod ({ cls := "FileBuilder$RecordLog", name := "checkOf", desc := "(I)I" } : Jvm.MethodName)) ∈ xTB := x_t3 113 rfl rfl
theorem tw_594 : (Jvm.Cond.code ({ cls := "FileBuilder$RecordLog", name := "checkOf", desc := "(I)I" } : Jvm.MethodName) prog_6_method_8_code (4 : Nat) (Option.some Jvm.ClassFile.FieldType.int)) ∈ xTB := x_t3 114 rfl rfl
theorem tw_595 : (Jvm.Cond.methodLink "FileBuilder" (204 : Nat) ({ cls := "FileBuilder", name := "letGo", desc := "()I" } : Jvm.MethodName)) ∈ xTB := x_t3 115 rfl rfl
theorem tw_597 : (Jvm.Cond.instanceMethod ({ cls := "FileBuilder", name := "letGo", desc := "()I" } : Jvm.MethodName)) ∈ xTB := x_t3 117 rfl rfl
theorem tw_598 : (Jvm.Cond.code ({ cls := "FileBuilder", name := "letGo", desc := "()I" } : Jvm.MethodName) prog_1_method_41_code (5 : Nat) (Option.some Jvm.ClassFile.FieldType.int)) ∈ xTB := x_t3 118 rfl rfl
theorem tw_599 : (Jvm.Cond.methodLink "FileBuilderLaw" (115 : Nat) ({ cls := "FileBuilderLaw", name := "about", desc := "(LFileBuilder;I[J)I" } : Jvm.MethodName)) ∈ xTB := x_t3 119 rfl rfl
theorem tw_600 : (Jvm.Cond.static ({ cls := "FileBuilderLaw", name := "about", desc := "(LFileBuilder;I[J)I" } : Jvm.MethodName)) ∈ xTB := x_t3 120 rfl rfl
theorem tw_601 : (Jvm.Cond.codeWith ({ cls := "FileBuilderLaw", name := "about", desc := "(LFileBuilder;I[J)I" } : Jvm.MethodName) method_12_code (4 : Nat) (Option.some Jvm.ClassFile.FieldType.int) [((0 : Nat), (9 : Nat), (12 : Nat), (13 : Nat))]) ∈ xTB := x_t3 121 rfl rfl
theorem tw_602 : (Jvm.Cond.methodLink "FileBuilderLaw" (50 : Nat) ({ cls := "FileBuilder", name := "about", desc := "(I)I" } : Jvm.MethodName)) ∈ xTB := x_t3 122 rfl rfl
theorem tw_603 : (Jvm.Cond.instanceMethod ({ cls := "FileBuilder", name := "about", desc := "(I)I" } : Jvm.MethodName)) ∈ xTB := x_t3 123 rfl rfl
theorem tw_604 : (Jvm.Cond.selects "FileBuilder" ({ cls := "FileBuilder", name := "about", desc := "(I)I" } : Jvm.MethodName) ({ cls := "FileBuilder", name := "about", desc := "(I)I" } : Jvm.MethodName)) ∈ xTB := x_t3 124 rfl rfl
theorem tw_605 : (Jvm.Cond.code ({ cls := "FileBuilder", name := "about", desc := "(I)I" } : Jvm.MethodName) prog_1_method_13_code (2 : Nat) (Option.some Jvm.ClassFile.FieldType.int)) ∈ xTB := x_t3 125 rfl rfl
theorem tw_606 : (Jvm.Cond.methodLink "FileBuilder" (210 : Nat) ({ cls := "FileBuilder", name := "refuseUnknownEdge", desc := "(I)V" } : Jvm.MethodName)) ∈ xTB := x_t3 126 rfl rfl
theorem tw_608 : (Jvm.Cond.instanceMethod ({ cls := "FileBuilder", name := "refuseUnknownEdge", desc := "(I)V" } : Jvm.MethodName)) ∈ xTB := x_t3 128 rfl rfl
theorem tw_609 : (Jvm.Cond.code ({ cls := "FileBuilder", name := "refuseUnknownEdge", desc := "(I)V" } : Jvm.MethodName) prog_1_method_26_code (2 : Nat) (Option.none : Option Jvm.ClassFile.FieldType)) ∈ xTB := x_t3 129 rfl rfl
theorem tw_611 : (Jvm.Cond.methodLink "FileBuilderLaw" (119 : Nat) ({ cls := "FileBuilderLaw", name := "file", desc := "(LFileBuilder;II[J)I" } : Jvm.MethodName)) ∈ xTB := x_t3 131 rfl rfl
theorem tw_612 : (Jvm.Cond.static ({ cls := "FileBuilderLaw", name := "file", desc := "(LFileBuilder;II[J)I" } : Jvm.MethodName)) ∈ xTB := x_t3 132 rfl rfl
theorem tw_613 : (Jvm.Cond.codeWith ({ cls := "FileBuilderLaw", name := "file", desc := "(LFileBuilder;II[J)I" } : Jvm.MethodName) method_13_code (5 : Nat) (Option.some Jvm.ClassFile.FieldType.int) [((0 : Nat), (10 : Nat), (13 : Nat), (13 : Nat))]) ∈ xTB := x_t3 133 rfl rfl
theorem tw_614 : (Jvm.Cond.methodLink "FileBuilderLaw" (54 : Nat) ({ cls := "FileBuilder", name := "file", desc := "(II)I" } : Jvm.MethodName)) ∈ xTB := x_t3 134 rfl rfl
theorem tw_615 : (Jvm.Cond.instanceMethod ({ cls := "FileBuilder", name := "file", desc := "(II)I" } : Jvm.MethodName)) ∈ xTB := x_t3 135 rfl rfl
theorem tw_616 : (Jvm.Cond.selects "FileBuilder" ({ cls := "FileBuilder", name := "file", desc := "(II)I" } : Jvm.MethodName) ({ cls := "FileBuilder", name := "file", desc := "(II)I" } : Jvm.MethodName)) ∈ xTB := x_t3 136 rfl rfl
theorem tw_617 : (Jvm.Cond.code ({ cls := "FileBuilder", name := "file", desc := "(II)I" } : Jvm.MethodName) prog_1_method_14_code (3 : Nat) (Option.some Jvm.ClassFile.FieldType.int)) ∈ xTB := x_t3 137 rfl rfl
theorem tw_620 : (Jvm.Cond.methodLink "FileBuilderLaw" (123 : Nat) ({ cls := "FileBuilderLaw", name := "commandOf", desc := "(LFileBuilder;I[J)I" } : Jvm.MethodName)) ∈ xTB := x_t3 140 rfl rfl
theorem tw_621 : (Jvm.Cond.static ({ cls := "FileBuilderLaw", name := "commandOf", desc := "(LFileBuilder;I[J)I" } : Jvm.MethodName)) ∈ xTB := x_t3 141 rfl rfl
theorem tw_622 : (Jvm.Cond.codeWith ({ cls := "FileBuilderLaw", name := "commandOf", desc := "(LFileBuilder;I[J)I" } : Jvm.MethodName) method_14_code (4 : Nat) (Option.some Jvm.ClassFile.FieldType.int) [((0 : Nat), (9 : Nat), (12 : Nat), (13 : Nat))]) ∈ xTB := x_t3 142 rfl rfl
theorem tw_623 : (Jvm.Cond.methodLink "FileBuilderLaw" (58 : Nat) ({ cls := "FileBuilder", name := "commandOf", desc := "(I)I" } : Jvm.MethodName)) ∈ xTB := x_t3 143 rfl rfl
theorem tw_624 : (Jvm.Cond.instanceMethod ({ cls := "FileBuilder", name := "commandOf", desc := "(I)I" } : Jvm.MethodName)) ∈ xTB := x_t3 144 rfl rfl
theorem tw_625 : (Jvm.Cond.selects "FileBuilder" ({ cls := "FileBuilder", name := "commandOf", desc := "(I)I" } : Jvm.MethodName) ({ cls := "FileBuilder", name := "commandOf", desc := "(I)I" } : Jvm.MethodName)) ∈ xTB := x_t3 145 rfl rfl
theorem tw_626 : (Jvm.Cond.code ({ cls := "FileBuilder", name := "commandOf", desc := "(I)I" } : Jvm.MethodName) prog_1_method_15_code (2 : Nat) (Option.some Jvm.ClassFile.FieldType.int)) ∈ xTB := x_t3 146 rfl rfl
theorem tw_627 : (Jvm.Cond.methodLink "FileBuilderLaw" (130 : Nat) ({ cls := "FileBuilderLaw", name := "cut", desc := "(LFileBuilder;I[J)I" } : Jvm.MethodName)) ∈ xTB := x_t3 147 rfl rfl
theorem tw_628 : (Jvm.Cond.static ({ cls := "FileBuilderLaw", name := "cut", desc := "(LFileBuilder;I[J)I" } : Jvm.MethodName)) ∈ xTB := x_t3 148 rfl rfl
theorem tw_629 : (Jvm.Cond.codeWith ({ cls := "FileBuilderLaw", name := "cut", desc := "(LFileBuilder;I[J)I" } : Jvm.MethodName) method_15_code (4 : Nat) (Option.some Jvm.ClassFile.FieldType.int) [((0 : Nat), (9 : Nat), (12 : Nat), (13 : Nat)), ((0 : Nat), (9 : Nat), (15 : Nat), (15 : Nat))]) ∈ xTB := x_t3 149 rfl rfl
theorem tw_630 : (Jvm.Cond.methodLink "FileBuilderLaw" (61 : Nat) ({ cls := "FileBuilder", name := "cut", desc := "(I)I" } : Jvm.MethodName)) ∈ xTB := x_t3 150 rfl rfl
theorem tw_631 : (Jvm.Cond.instanceMethod ({ cls := "FileBuilder", name := "cut", desc := "(I)I" } : Jvm.MethodName)) ∈ xTB := x_t3 151 rfl rfl
theorem tw_632 : (Jvm.Cond.selects "FileBuilder" ({ cls := "FileBuilder", name := "cut", desc := "(I)I" } : Jvm.MethodName) ({ cls := "FileBuilder", name := "cut", desc := "(I)I" } : Jvm.MethodName)) ∈ xTB := x_t3 152 rfl rfl
theorem tw_633 : (Jvm.Cond.code ({ cls := "FileBuilder", name := "cut", desc := "(I)I" } : Jvm.MethodName) prog_1_method_17_code (2 : Nat) (Option.some Jvm.ClassFile.FieldType.int)) ∈ xTB := x_t3 153 rfl rfl
theorem tw_637 : (Jvm.Cond.instanceMethod ({ cls := "FileBuilder$RecordLog", name := "readAgain", desc := "(I)V" } : Jvm.MethodName)) ∈ xTB := x_t3 157 rfl rfl
theorem tw_638 : (Jvm.Cond.code ({ cls := "FileBuilder$RecordLog", name := "readAgain", desc := "(I)V" } : Jvm.MethodName) prog_6_method_10_code (4 : Nat) (Option.none : Option Jvm.ClassFile.FieldType)) ∈ xTB := x_t3 158 rfl rfl
theorem tw_639 : (Jvm.Cond.methodLink "FileBuilder$RecordLog" (53 : Nat) ({ cls := "java/lang/Math", name := "min", desc := "(II)I" } : Jvm.MethodName)) ∈ xTB := x_t3 159 rfl rfl
theorem tw_640 : (Jvm.Cond.static ({ cls := "java/lang/Math", name := "min", desc := "(II)I" } : Jvm.MethodName)) ∈ xTB := x_t3 160 rfl rfl
theorem tw_641 : (Jvm.Cond.code ({ cls := "java/lang/Math", name := "min", desc := "(II)I" } : Jvm.MethodName) prog_12_method_69_code (2 : Nat) (Option.some Jvm.ClassFile.FieldType.int)) ∈ xTB := x_t3 161 rfl rfl
theorem tw_642 : (Jvm.Cond.methodLink "FileBuilder$RecordLog" (59 : Nat) ({ cls := "FileBuilder$RecordLog", name := "isRight", desc := "(I)Z" } : Jvm.MethodName)) ∈ xTB := x_t3 162 rfl rfl
theorem tw_644 : (Jvm.Cond.instanceMethod ({ cls := "FileBuilder$RecordLog", name := "isRight", desc := "(I)Z" } : Jvm.MethodName)) ∈ xTB := x_t3 164 rfl rfl
theorem tw_645 : (Jvm.Cond.code ({ cls := "FileBuilder$RecordLog", name := "isRight", desc := "(I)Z" } : Jvm.MethodName) prog_6_method_9_code (2 : Nat) (Option.some Jvm.ClassFile.FieldType.boolean)) ∈ xTB := x_t3 165 rfl rfl
theorem tw_647 : (Jvm.Cond.methodLink "FileBuilder$RecordLog" (62 : Nat) ({ cls := "FileBuilder$RecordLog", name := "takeIn", desc := "(I)V" } : Jvm.MethodName)) ∈ xTB := x_t3 167 rfl rfl
theorem tw_649 : (Jvm.Cond.instanceMethod ({ cls := "FileBuilder$RecordLog", name := "takeIn", desc := "(I)V" } : Jvm.MethodName)) ∈ xTB := x_t3 169 rfl rfl
theorem tw_650 : (Jvm.Cond.code ({ cls := "FileBuilder$RecordLog", name := "takeIn", desc := "(I)V" } : Jvm.MethodName) prog_6_method_11_code (3 : Nat) (Option.none : Option Jvm.ClassFile.FieldType)) ∈ xTB := x_t3 170 rfl rfl
theorem tw_653 : (Jvm.Cond.instanceMethod ({ cls := "FileBuilder$Readings", name := "forget", desc := "()V" } : Jvm.MethodName)) ∈ xTB := x_t3 173 rfl rfl
theorem tw_654 : (Jvm.Cond.code ({ cls := "FileBuilder$Readings", name := "forget", desc := "()V" } : Jvm.MethodName) prog_5_method_3_code (2 : Nat) (Option.none : Option Jvm.ClassFile.FieldType)) ∈ xTB := x_t3 174 rfl rfl
theorem tw_657 : (Jvm.Cond.instanceMethod ({ cls := "FileBuilder$Build", name := "forget", desc := "()V" } : Jvm.MethodName)) ∈ xTB := x_t3 177 rfl rfl
theorem tw_658 : (Jvm.Cond.code ({ cls := "FileBuilder$Build", name := "forget", desc := "()V" } : Jvm.MethodName) prog_2_method_6_code (1 : Nat) (Option.none : Option Jvm.ClassFile.FieldType)) ∈ xTB := x_t3 178 rfl rfl
theorem tw_659 : (Jvm.Cond.classLink "FileBuilderLaw" (65 : Nat) "FileBuilderModel") ∈ xTB := x_t3 179 rfl rfl
theorem tw_660 : (Jvm.Cond.instantiable "FileBuilderModel" (30 : Nat)) ∈ xTB := x_t3 180 rfl rfl
theorem tw_661 : (Jvm.Cond.methodLink "FileBuilderLaw" (67 : Nat) ({ cls := "FileBuilderModel", name := "<init>", desc := "()V" } : Jvm.MethodName)) ∈ xTB := x_t3 181 rfl rfl
theorem tw_662 : (Jvm.Cond.instanceMethod ({ cls := "FileBuilderModel", name := "<init>", desc := "()V" } : Jvm.MethodName)) ∈ xTB := x_t3 182 rfl rfl
theorem tw_663 : (Jvm.Cond.code ({ cls := "FileBuilderModel", name := "<init>", desc := "()V" } : Jvm.MethodName) prog_8_method_1_code (1 : Nat) (Option.none : Option Jvm.ClassFile.FieldType)) ∈ xTB := x_t3 183 rfl rfl
theorem tw_664 : (Jvm.Cond.methodLink "FileBuilderModel" (1 : Nat) ({ cls := "java/lang/Object", name := "<init>", desc := "()V" } : Jvm.MethodName)) ∈ xTB := x_t3 184 rfl rfl
theorem tw_665 : (Jvm.Cond.fieldLink "FileBuilderModel" (75 : Nat) "FileBuilderModel" "code" "I") ∈ xTB := x_t3 185 rfl rfl
theorem tw_666 : (Jvm.Cond.fieldLink "FileBuilderModel" (79 : Nat) "FileBuilderModel" "many" "I") ∈ xTB := x_t3 186 rfl rfl
theorem tw_667 : (Jvm.Cond.fieldLink "FileBuilderModel" (7 : Nat) "FileBuilderModel" "command" "[I") ∈ xTB := x_t3 187 rfl rfl
theorem tw_668 : (Jvm.Cond.fieldLink "FileBuilderModel" (13 : Nat) "FileBuilderModel" "flags" "[I") ∈ xTB := x_t3 188 rfl rfl
theorem tw_669 : (Jvm.Cond.fieldLink "FileBuilderModel" (16 : Nat) "FileBuilderModel" "pool" "[I") ∈ xTB := x_t3 189 rfl rfl
theorem tw_670 : (Jvm.Cond.fieldLink "FileBuilderModel" (19 : Nat) "FileBuilderModel" "outputs" "[I") ∈ xTB := x_t3 190 rfl rfl
theorem tw_671 : (Jvm.Cond.fieldLink "FileBuilderModel" (22 : Nat) "FileBuilderModel" "links" "[I") ∈ xTB := x_t3 191 rfl rfl
theorem tw_672 : (Jvm.Cond.fieldLink "FileBuilderModel" (25 : Nat) "FileBuilderModel" "reads" "[I") ∈ xTB := x_t3 192 rfl rfl
theorem tw_673 : (Jvm.Cond.fieldLink "FileBuilderModel" (28 : Nat) "FileBuilderModel" "recorded" "[I") ∈ xTB := x_t3 193 rfl rfl
theorem tw_674 : (Jvm.Cond.fieldLink "FileBuilderModel" (31 : Nat) "FileBuilderModel" "known" "[Z") ∈ xTB := x_t3 194 rfl rfl
theorem tw_675 : (Jvm.Cond.fieldLink "FileBuilderModel" (35 : Nat) "FileBuilderModel" "step" "[I") ∈ xTB := x_t3 195 rfl rfl
theorem tw_676 : (Jvm.Cond.fieldLink "FileBuilderModel" (109 : Nat) "FileBuilderModel" "clock" "I") ∈ xTB := x_t3 196 rfl rfl
theorem tw_677 : (Jvm.Cond.fieldLink "FileBuilderModel" (38 : Nat) "FileBuilderModel" "content" "[I") ∈ xTB := x_t3 197 rfl rfl
theorem tw_678 : (Jvm.Cond.fieldLink "FileBuilderModel" (41 : Nat) "FileBuilderModel" "time" "[I") ∈ xTB := x_t3 198 rfl rfl
theorem tw_679 : (Jvm.Cond.fieldLink "FileBuilderModel" (44 : Nat) "FileBuilderModel" "maker" "[I") ∈ xTB := x_t3 199 rfl rfl
theorem tw_680 : (Jvm.Cond.fieldLink "FileBuilderModel" (47 : Nat) "FileBuilderModel" "logs" "[Z") ∈ xTB := x_t3 200 rfl rfl
theorem tw_681 : (Jvm.Cond.fieldLink "FileBuilderModel" (50 : Nat) "FileBuilderModel" "logged" "[I") ∈ xTB := x_t3 201 rfl rfl
theorem tw_682 : (Jvm.Cond.fieldLink "FileBuilderModel" (53 : Nat) "FileBuilderModel" "newestLogged" "[I") ∈ xTB := x_t3 202 rfl rfl
theorem tw_683 : (Jvm.Cond.fieldLink "FileBuilderModel" (187 : Nat) "FileBuilderModel" "size" "I") ∈ xTB := x_t3 203 rfl rfl
theorem tw_684 : (Jvm.Cond.fieldLink "FileBuilderModel" (56 : Nat) "FileBuilderModel" "log" "[I") ∈ xTB := x_t3 204 rfl rfl
theorem tw_685 : (Jvm.Cond.fieldLink "FileBuilderModel" (59 : Nat) "FileBuilderModel" "depthOne" "I") ∈ xTB := x_t3 205 rfl rfl
theorem tw_686 : (Jvm.Cond.fieldLink "FileBuilderModel" (63 : Nat) "FileBuilderModel" "depthTwo" "I") ∈ xTB := x_t3 206 rfl rfl
theorem tw_687 : (Jvm.Cond.fieldLink "FileBuilderModel" (119 : Nat) "FileBuilderModel" "reached" "I") ∈ xTB := x_t3 207 rfl rfl
theorem tw_688 : (Jvm.Cond.fieldLink "FileBuilderModel" (66 : Nat) "FileBuilderModel" "order" "[I") ∈ xTB := x_t3 208 rfl rfl
theorem tw_689 : (Jvm.Cond.fieldLink "FileBuilderModel" (69 : Nat) "FileBuilderModel" "newest" "[I") ∈ xTB := x_t3 209 rfl rfl
theorem tw_690 : (Jvm.Cond.fieldLink "FileBuilderModel" (72 : Nat) "FileBuilderModel" "marks" "[Z") ∈ xTB := x_t3 210 rfl rfl
theorem tw_691 : (Jvm.Cond.fieldLink "FileBuilderModel" (153 : Nat) "FileBuilderModel" "jobs" "I") ∈ xTB := x_t3 211 rfl rfl
theorem tw_692 : (Jvm.Cond.fieldLink "FileBuilderModel" (156 : Nat) "FileBuilderModel" "fail" "I") ∈ xTB := x_t3 212 rfl rfl
theorem tw_693 : (Jvm.Cond.fieldLink "FileBuilderModel" (165 : Nat) "FileBuilderModel" "begun" "Z") ∈ xTB := x_t3 213 rfl rfl
theorem tw_694 : (Jvm.Cond.fieldLink "FileBuilderModel" (91 : Nat) "FileBuilderModel" "under" "Z") ∈ xTB := x_t3 214 rfl rfl
theorem tw_695 : (Jvm.Cond.lays "FileBuilderModel" "FileBuilderModel" "code" "I") ∈ xTB := x_t3 215 rfl rfl
theorem tw_697 : (Jvm.Cond.lays "FileBuilderModel" "FileBuilderModel" "many" "I") ∈ xTB := x_t3 217 rfl rfl
theorem tw_699 : (Jvm.Cond.laysFinal "FileBuilderModel" "FileBuilderModel" "command" "[I") ∈ xTB := x_t3 219 rfl rfl
theorem tw_701 : (Jvm.Cond.laysFinal "FileBuilderModel" "FileBuilderModel" "flags" "[I") ∈ xTB := x_t3 221 rfl rfl
theorem tw_703 : (Jvm.Cond.laysFinal "FileBuilderModel" "FileBuilderModel" "pool" "[I") ∈ xTB := x_t3 223 rfl rfl
theorem tw_705 : (Jvm.Cond.laysFinal "FileBuilderModel" "FileBuilderModel" "outputs" "[I") ∈ xTB := x_t3 225 rfl rfl
theorem tw_707 : (Jvm.Cond.laysFinal "FileBuilderModel" "FileBuilderModel" "links" "[I") ∈ xTB := x_t3 227 rfl rfl
theorem tw_709 : (Jvm.Cond.laysFinal "FileBuilderModel" "FileBuilderModel" "reads" "[I") ∈ xTB := x_t3 229 rfl rfl
theorem tw_711 : (Jvm.Cond.laysFinal "FileBuilderModel" "FileBuilderModel" "recorded" "[I") ∈ xTB := x_t3 231 rfl rfl
theorem tw_713 : (Jvm.Cond.laysFinal "FileBuilderModel" "FileBuilderModel" "known" "[Z") ∈ xTB := x_t3 233 rfl rfl
theorem tw_715 : (Jvm.Cond.laysFinal "FileBuilderModel" "FileBuilderModel" "step" "[I") ∈ xTB := x_t3 235 rfl rfl
theorem tw_717 : (Jvm.Cond.lays "FileBuilderModel" "FileBuilderModel" "clock" "I") ∈ xTB := x_t3 237 rfl rfl
theorem tw_719 : (Jvm.Cond.laysFinal "FileBuilderModel" "FileBuilderModel" "content" "[I") ∈ xTB := x_t3 239 rfl rfl
theorem tw_721 : (Jvm.Cond.laysFinal "FileBuilderModel" "FileBuilderModel" "time" "[I") ∈ xTB := x_t4 1 rfl rfl
theorem tw_723 : (Jvm.Cond.laysFinal "FileBuilderModel" "FileBuilderModel" "maker" "[I") ∈ xTB := x_t4 3 rfl rfl
theorem tw_725 : (Jvm.Cond.laysFinal "FileBuilderModel" "FileBuilderModel" "logs" "[Z") ∈ xTB := x_t4 5 rfl rfl
theorem tw_727 : (Jvm.Cond.laysFinal "FileBuilderModel" "FileBuilderModel" "logged" "[I") ∈ xTB := x_t4 7 rfl rfl
theorem tw_729 : (Jvm.Cond.laysFinal "FileBuilderModel" "FileBuilderModel" "newestLogged" "[I") ∈ xTB := x_t4 9 rfl rfl
theorem tw_731 : (Jvm.Cond.lays "FileBuilderModel" "FileBuilderModel" "size" "I") ∈ xTB := x_t4 11 rfl rfl
theorem tw_733 : (Jvm.Cond.laysFinal "FileBuilderModel" "FileBuilderModel" "log" "[I") ∈ xTB := x_t4 13 rfl rfl
theorem tw_735 : (Jvm.Cond.lays "FileBuilderModel" "FileBuilderModel" "depthOne" "I") ∈ xTB := x_t4 15 rfl rfl
theorem tw_737 : (Jvm.Cond.lays "FileBuilderModel" "FileBuilderModel" "depthTwo" "I") ∈ xTB := x_t4 17 rfl rfl
theorem tw_739 : (Jvm.Cond.lays "FileBuilderModel" "FileBuilderModel" "reached" "I") ∈ xTB := x_t4 19 rfl rfl
theorem tw_741 : (Jvm.Cond.laysFinal "FileBuilderModel" "FileBuilderModel" "order" "[I") ∈ xTB := x_t4 21 rfl rfl
theorem tw_743 : (Jvm.Cond.laysFinal "FileBuilderModel" "FileBuilderModel" "newest" "[I") ∈ xTB := x_t4 23 rfl rfl
theorem tw_745 : (Jvm.Cond.laysFinal "FileBuilderModel" "FileBuilderModel" "marks" "[Z") ∈ xTB := x_t4 25 rfl rfl
theorem tw_747 : (Jvm.Cond.lays "FileBuilderModel" "FileBuilderModel" "jobs" "I") ∈ xTB := x_t4 27 rfl rfl
theorem tw_749 : (Jvm.Cond.lays "FileBuilderModel" "FileBuilderModel" "fail" "I") ∈ xTB := x_t4 29 rfl rfl
theorem tw_751 : (Jvm.Cond.lays "FileBuilderModel" "FileBuilderModel" "begun" "Z") ∈ xTB := x_t4 31 rfl rfl
theorem tw_753 : (Jvm.Cond.lays "FileBuilderModel" "FileBuilderModel" "under" "Z") ∈ xTB := x_t4 33 rfl rfl
theorem tw_756 : (Jvm.Cond.methodLink "FileBuilderLaw" (74 : Nat) ({ cls := "FileBuilderModel", name := "thrown", desc := "()I" } : Jvm.MethodName)) ∈ xTB := x_t4 36 rfl rfl
theorem tw_757 : (Jvm.Cond.instanceMethod ({ cls := "FileBuilderModel", name := "thrown", desc := "()I" } : Jvm.MethodName)) ∈ xTB := x_t4 37 rfl rfl
theorem tw_758 : (Jvm.Cond.selects "FileBuilderModel" ({ cls := "FileBuilderModel", name := "thrown", desc := "()I" } : Jvm.MethodName) ({ cls := "FileBuilderModel", name := "thrown", desc := "()I" } : Jvm.MethodName)) ∈ xTB := x_t4 38 rfl rfl
theorem tw_759 : (Jvm.Cond.code ({ cls := "FileBuilderModel", name := "thrown", desc := "()I" } : Jvm.MethodName) prog_8_method_2_code (1 : Nat) (Option.some Jvm.ClassFile.FieldType.int)) ∈ xTB := x_t4 39 rfl rfl
theorem tw_760 : (Jvm.Cond.methodLink "FileBuilderLaw" (73 : Nat) ({ cls := "FileBuilderModel", name := "edge", desc := "(III)I" } : Jvm.MethodName)) ∈ xTB := x_t4 40 rfl rfl
theorem tw_761 : (Jvm.Cond.instanceMethod ({ cls := "FileBuilderModel", name := "edge", desc := "(III)I" } : Jvm.MethodName)) ∈ xTB := x_t4 41 rfl rfl
theorem tw_762 : (Jvm.Cond.selects "FileBuilderModel" ({ cls := "FileBuilderModel", name := "edge", desc := "(III)I" } : Jvm.MethodName) ({ cls := "FileBuilderModel", name := "edge", desc := "(III)I" } : Jvm.MethodName)) ∈ xTB := x_t4 42 rfl rfl
theorem tw_763 : (Jvm.Cond.code ({ cls := "FileBuilderModel", name := "edge", desc := "(III)I" } : Jvm.MethodName) prog_8_method_12_code (5 : Nat) (Option.some Jvm.ClassFile.FieldType.int)) ∈ xTB := x_t4 43 rfl rfl
theorem tw_764 : (Jvm.Cond.constant "FileBuilderModel" (90 : Nat) (65535 : Int32)) ∈ xTB := x_t4 44 rfl rfl
theorem tw_765 : (Jvm.Cond.methodLink "FileBuilderModel" (82 : Nat) ({ cls := "FileBuilderModel", name := "outside", desc := "(III)Z" } : Jvm.MethodName)) ∈ xTB := x_t4 45 rfl rfl
theorem tw_766 : (Jvm.Cond.static ({ cls := "FileBuilderModel", name := "outside", desc := "(III)Z" } : Jvm.MethodName)) ∈ xTB := x_t4 46 rfl rfl
theorem tw_767 : (Jvm.Cond.code ({ cls := "FileBuilderModel", name := "outside", desc := "(III)Z" } : Jvm.MethodName) prog_8_method_4_code (3 : Nat) (Option.some Jvm.ClassFile.FieldType.boolean)) ∈ xTB := x_t4 47 rfl rfl
theorem tw_768 : (Jvm.Cond.methodLink "FileBuilderLaw" (81 : Nat) ({ cls := "FileBuilderModel", name := "link", desc := "(III)V" } : Jvm.MethodName)) ∈ xTB := x_t4 48 rfl rfl
theorem tw_769 : (Jvm.Cond.instanceMethod ({ cls := "FileBuilderModel", name := "link", desc := "(III)V" } : Jvm.MethodName)) ∈ xTB := x_t4 49 rfl rfl
theorem tw_770 : (Jvm.Cond.selects "FileBuilderModel" ({ cls := "FileBuilderModel", name := "link", desc := "(III)V" } : Jvm.MethodName) ({ cls := "FileBuilderModel", name := "link", desc := "(III)V" } : Jvm.MethodName)) ∈ xTB := x_t4 50 rfl rfl
theorem tw_771 : (Jvm.Cond.code ({ cls := "FileBuilderModel", name := "link", desc := "(III)V" } : Jvm.MethodName) prog_8_method_13_code (7 : Nat) (Option.none : Option Jvm.ClassFile.FieldType)) ∈ xTB := x_t4 51 rfl rfl
theorem tw_772 : (Jvm.Cond.methodLink "FileBuilderModel" (95 : Nat) ({ cls := "FileBuilderModel", name := "isFile", desc := "(I)Z" } : Jvm.MethodName)) ∈ xTB := x_t4 52 rfl rfl
theorem tw_773 : (Jvm.Cond.static ({ cls := "FileBuilderModel", name := "isFile", desc := "(I)Z" } : Jvm.MethodName)) ∈ xTB := x_t4 53 rfl rfl
theorem tw_774 : (Jvm.Cond.code ({ cls := "FileBuilderModel", name := "isFile", desc := "(I)Z" } : Jvm.MethodName) prog_8_method_8_code (1 : Nat) (Option.some Jvm.ClassFile.FieldType.boolean)) ∈ xTB := x_t4 54 rfl rfl
theorem tw_775 : (Jvm.Cond.methodLink "FileBuilderModel" (99 : Nat) ({ cls := "FileBuilderModel", name := "isEdge", desc := "(I)Z" } : Jvm.MethodName)) ∈ xTB := x_t4 55 rfl rfl
theorem tw_777 : (Jvm.Cond.instanceMethod ({ cls := "FileBuilderModel", name := "isEdge", desc := "(I)Z" } : Jvm.MethodName)) ∈ xTB := x_t4 57 rfl rfl
theorem tw_778 : (Jvm.Cond.code ({ cls := "FileBuilderModel", name := "isEdge", desc := "(I)Z" } : Jvm.MethodName) prog_8_method_7_code (2 : Nat) (Option.some Jvm.ClassFile.FieldType.boolean)) ∈ xTB := x_t4 58 rfl rfl
theorem tw_779 : (Jvm.Cond.methodLink "FileBuilderModel" (102 : Nat) ({ cls := "FileBuilderModel", name := "is", desc := "(II)Z" } : Jvm.MethodName)) ∈ xTB := x_t4 59 rfl rfl
theorem tw_781 : (Jvm.Cond.instanceMethod ({ cls := "FileBuilderModel", name := "is", desc := "(II)Z" } : Jvm.MethodName)) ∈ xTB := x_t4 61 rfl rfl
theorem tw_782 : (Jvm.Cond.code ({ cls := "FileBuilderModel", name := "is", desc := "(II)Z" } : Jvm.MethodName) prog_8_method_9_code (3 : Nat) (Option.some Jvm.ClassFile.FieldType.boolean)) ∈ xTB := x_t4 62 rfl rfl
theorem tw_783 : (Jvm.Cond.methodLink "FileBuilderModel" (106 : Nat) ({ cls := "FileBuilderModel", name := "in", desc := "(II)Z" } : Jvm.MethodName)) ∈ xTB := x_t4 63 rfl rfl
theorem tw_784 : (Jvm.Cond.static ({ cls := "FileBuilderModel", name := "in", desc := "(II)Z" } : Jvm.MethodName)) ∈ xTB := x_t4 64 rfl rfl
theorem tw_785 : (Jvm.Cond.code ({ cls := "FileBuilderModel", name := "in", desc := "(II)Z" } : Jvm.MethodName) prog_8_method_5_code (2 : Nat) (Option.some Jvm.ClassFile.FieldType.boolean)) ∈ xTB := x_t4 65 rfl rfl
theorem tw_786 : (Jvm.Cond.methodLink "FileBuilderLaw" (85 : Nat) ({ cls := "FileBuilderModel", name := "reads", desc := "(IIZ)V" } : Jvm.MethodName)) ∈ xTB := x_t4 66 rfl rfl
theorem tw_787 : (Jvm.Cond.instanceMethod ({ cls := "FileBuilderModel", name := "reads", desc := "(IIZ)V" } : Jvm.MethodName)) ∈ xTB := x_t4 67 rfl rfl
theorem tw_788 : (Jvm.Cond.selects "FileBuilderModel" ({ cls := "FileBuilderModel", name := "reads", desc := "(IIZ)V" } : Jvm.MethodName) ({ cls := "FileBuilderModel", name := "reads", desc := "(IIZ)V" } : Jvm.MethodName)) ∈ xTB := x_t4 68 rfl rfl
theorem tw_789 : (Jvm.Cond.code ({ cls := "FileBuilderModel", name := "reads", desc := "(IIZ)V" } : Jvm.MethodName) prog_8_method_14_code (4 : Nat) (Option.none : Option Jvm.ClassFile.FieldType)) ∈ xTB := x_t4 69 rfl rfl
theorem tw_790 : (Jvm.Cond.methodLink "FileBuilderLaw" (89 : Nat) ({ cls := "FileBuilderModel", name := "command", desc := "(II)V" } : Jvm.MethodName)) ∈ xTB := x_t4 70 rfl rfl
theorem tw_791 : (Jvm.Cond.instanceMethod ({ cls := "FileBuilderModel", name := "command", desc := "(II)V" } : Jvm.MethodName)) ∈ xTB := x_t4 71 rfl rfl
theorem tw_792 : (Jvm.Cond.selects "FileBuilderModel" ({ cls := "FileBuilderModel", name := "command", desc := "(II)V" } : Jvm.MethodName) ({ cls := "FileBuilderModel", name := "command", desc := "(II)V" } : Jvm.MethodName)) ∈ xTB := x_t4 72 rfl rfl
theorem tw_793 : (Jvm.Cond.code ({ cls := "FileBuilderModel", name := "command", desc := "(II)V" } : Jvm.MethodName) prog_8_method_15_code (3 : Nat) (Option.none : Option Jvm.ClassFile.FieldType)) ∈ xTB := x_t4 73 rfl rfl
theorem tw_794 : (Jvm.Cond.methodLink "FileBuilderLaw" (92 : Nat) ({ cls := "FileBuilderModel", name := "pool", desc := "(II)V" } : Jvm.MethodName)) ∈ xTB := x_t4 74 rfl rfl
theorem tw_795 : (Jvm.Cond.instanceMethod ({ cls := "FileBuilderModel", name := "pool", desc := "(II)V" } : Jvm.MethodName)) ∈ xTB := x_t4 75 rfl rfl
theorem tw_796 : (Jvm.Cond.selects "FileBuilderModel" ({ cls := "FileBuilderModel", name := "pool", desc := "(II)V" } : Jvm.MethodName) ({ cls := "FileBuilderModel", name := "pool", desc := "(II)V" } : Jvm.MethodName)) ∈ xTB := x_t4 76 rfl rfl
theorem tw_797 : (Jvm.Cond.code ({ cls := "FileBuilderModel", name := "pool", desc := "(II)V" } : Jvm.MethodName) prog_8_method_16_code (3 : Nat) (Option.none : Option Jvm.ClassFile.FieldType)) ∈ xTB := x_t4 77 rfl rfl
theorem tw_798 : (Jvm.Cond.methodLink "FileBuilderLaw" (95 : Nat) ({ cls := "FileBuilderModel", name := "write", desc := "(II)V" } : Jvm.MethodName)) ∈ xTB := x_t4 78 rfl rfl
theorem tw_799 : (Jvm.Cond.instanceMethod ({ cls := "FileBuilderModel", name := "write", desc := "(II)V" } : Jvm.MethodName)) ∈ xTB := x_t4 79 rfl rfl
theorem tw_800 : (Jvm.Cond.selects "FileBuilderModel" ({ cls := "FileBuilderModel", name := "write", desc := "(II)V" } : Jvm.MethodName) ({ cls := "FileBuilderModel", name := "write", desc := "(II)V" } : Jvm.MethodName)) ∈ xTB := x_t4 80 rfl rfl
theorem tw_801 : (Jvm.Cond.code ({ cls := "FileBuilderModel", name := "write", desc := "(II)V" } : Jvm.MethodName) prog_8_method_19_code (3 : Nat) (Option.none : Option Jvm.ClassFile.FieldType)) ∈ xTB := x_t4 81 rfl rfl
theorem tw_802 : (Jvm.Cond.methodLink "FileBuilderModel" (112 : Nat) ({ cls := "FileBuilderModel", name := "byPhony", desc := "(I)Z" } : Jvm.MethodName)) ∈ xTB := x_t4 82 rfl rfl
theorem tw_804 : (Jvm.Cond.instanceMethod ({ cls := "FileBuilderModel", name := "byPhony", desc := "(I)Z" } : Jvm.MethodName)) ∈ xTB := x_t4 84 rfl rfl
theorem tw_805 : (Jvm.Cond.code ({ cls := "FileBuilderModel", name := "byPhony", desc := "(I)Z" } : Jvm.MethodName) prog_8_method_17_code (2 : Nat) (Option.some Jvm.ClassFile.FieldType.boolean)) ∈ xTB := x_t4 85 rfl rfl
theorem tw_806 : (Jvm.Cond.methodLink "FileBuilderModel" (115 : Nat) ({ cls := "FileBuilderModel", name := "put", desc := "(II)V" } : Jvm.MethodName)) ∈ xTB := x_t4 86 rfl rfl
theorem tw_808 : (Jvm.Cond.instanceMethod ({ cls := "FileBuilderModel", name := "put", desc := "(II)V" } : Jvm.MethodName)) ∈ xTB := x_t4 88 rfl rfl
theorem tw_809 : (Jvm.Cond.code ({ cls := "FileBuilderModel", name := "put", desc := "(II)V" } : Jvm.MethodName) prog_8_method_18_code (3 : Nat) (Option.none : Option Jvm.ClassFile.FieldType)) ∈ xTB := x_t4 89 rfl rfl
theorem tw_810 : (Jvm.Cond.methodLink "FileBuilderLaw" (99 : Nat) ({ cls := "FileBuilderModel", name := "remove", desc := "(I)V" } : Jvm.MethodName)) ∈ xTB := x_t4 90 rfl rfl
theorem tw_811 : (Jvm.Cond.instanceMethod ({ cls := "FileBuilderModel", name := "remove", desc := "(I)V" } : Jvm.MethodName)) ∈ xTB := x_t4 91 rfl rfl
theorem tw_812 : (Jvm.Cond.selects "FileBuilderModel" ({ cls := "FileBuilderModel", name := "remove", desc := "(I)V" } : Jvm.MethodName) ({ cls := "FileBuilderModel", name := "remove", desc := "(I)V" } : Jvm.MethodName)) ∈ xTB := x_t4 92 rfl rfl
theorem tw_813 : (Jvm.Cond.code ({ cls := "FileBuilderModel", name := "remove", desc := "(I)V" } : Jvm.MethodName) prog_8_method_20_code (2 : Nat) (Option.none : Option Jvm.ClassFile.FieldType)) ∈ xTB := x_t4 93 rfl rfl
theorem tw_814 : (Jvm.Cond.methodLink "FileBuilderLaw" (102 : Nat) ({ cls := "FileBuilderModel", name := "begin", desc := "(III)I" } : Jvm.MethodName)) ∈ xTB := x_t4 94 rfl rfl
theorem tw_815 : (Jvm.Cond.instanceMethod ({ cls := "FileBuilderModel", name := "begin", desc := "(III)I" } : Jvm.MethodName)) ∈ xTB := x_t4 95 rfl rfl
theorem tw_816 : (Jvm.Cond.selects "FileBuilderModel" ({ cls := "FileBuilderModel", name := "begin", desc := "(III)I" } : Jvm.MethodName) ({ cls := "FileBuilderModel", name := "begin", desc := "(III)I" } : Jvm.MethodName)) ∈ xTB := x_t4 96 rfl rfl
theorem tw_817 : (Jvm.Cond.code ({ cls := "FileBuilderModel", name := "begin", desc := "(III)I" } : Jvm.MethodName) prog_8_method_32_code (9 : Nat) (Option.some Jvm.ClassFile.FieldType.int)) ∈ xTB := x_t4 97 rfl rfl
theorem tw_818 : (Jvm.Cond.constant "FileBuilderModel" (140 : Nat) (16777215 : Int32)) ∈ xTB := x_t4 98 rfl rfl
theorem tw_819 : (Jvm.Cond.methodLink "FileBuilderModel" (141 : Nat) ({ cls := "FileBuilderModel", name := "reach", desc := "(I)I" } : Jvm.MethodName)) ∈ xTB := x_t4 99 rfl rfl
theorem tw_821 : (Jvm.Cond.instanceMethod ({ cls := "FileBuilderModel", name := "reach", desc := "(I)I" } : Jvm.MethodName)) ∈ xTB := x_t4 101 rfl rfl
theorem tw_822 : (Jvm.Cond.code ({ cls := "FileBuilderModel", name := "reach", desc := "(I)I" } : Jvm.MethodName) prog_8_method_30_code (5 : Nat) (Option.some Jvm.ClassFile.FieldType.int)) ∈ xTB := x_t4 102 rfl rfl
theorem tw_823 : (Jvm.Cond.methodLink "FileBuilderModel" (137 : Nat) ({ cls := "FileBuilderModel", name := "makersOf", desc := "(I)I" } : Jvm.MethodName)) ∈ xTB := x_t4 103 rfl rfl
theorem tw_825 : (Jvm.Cond.instanceMethod ({ cls := "FileBuilderModel", name := "makersOf", desc := "(I)I" } : Jvm.MethodName)) ∈ xTB := x_t4 105 rfl rfl
theorem tw_826 : (Jvm.Cond.code ({ cls := "FileBuilderModel", name := "makersOf", desc := "(I)I" } : Jvm.MethodName) prog_8_method_28_code (4 : Nat) (Option.some Jvm.ClassFile.FieldType.int)) ∈ xTB := x_t4 106 rfl rfl
theorem tw_827 : (Jvm.Cond.methodLink "FileBuilderModel" (128 : Nat) ({ cls := "FileBuilderModel", name := "waits", desc := "(I)I" } : Jvm.MethodName)) ∈ xTB := x_t4 107 rfl rfl
theorem tw_829 : (Jvm.Cond.instanceMethod ({ cls := "FileBuilderModel", name := "waits", desc := "(I)I" } : Jvm.MethodName)) ∈ xTB := x_t4 109 rfl rfl
theorem tw_830 : (Jvm.Cond.code ({ cls := "FileBuilderModel", name := "waits", desc := "(I)I" } : Jvm.MethodName) prog_8_method_11_code (2 : Nat) (Option.some Jvm.ClassFile.FieldType.int)) ∈ xTB := x_t4 110 rfl rfl
theorem tw_831 : (Jvm.Cond.methodLink "FileBuilderModel" (86 : Nat) ({ cls := "FileBuilderModel", name := "needs", desc := "(I)I" } : Jvm.MethodName)) ∈ xTB := x_t4 111 rfl rfl
theorem tw_833 : (Jvm.Cond.instanceMethod ({ cls := "FileBuilderModel", name := "needs", desc := "(I)I" } : Jvm.MethodName)) ∈ xTB := x_t4 113 rfl rfl
theorem tw_834 : (Jvm.Cond.code ({ cls := "FileBuilderModel", name := "needs", desc := "(I)I" } : Jvm.MethodName) prog_8_method_10_code (2 : Nat) (Option.some Jvm.ClassFile.FieldType.int)) ∈ xTB := x_t4 114 rfl rfl
theorem tw_835 : (Jvm.Cond.methodLink "FileBuilderModel" (144 : Nat) ({ cls := "FileBuilderModel", name := "lay", desc := "(I)Z" } : Jvm.MethodName)) ∈ xTB := x_t4 115 rfl rfl
theorem tw_837 : (Jvm.Cond.instanceMethod ({ cls := "FileBuilderModel", name := "lay", desc := "(I)Z" } : Jvm.MethodName)) ∈ xTB := x_t4 117 rfl rfl
theorem tw_838 : (Jvm.Cond.code ({ cls := "FileBuilderModel", name := "lay", desc := "(I)Z" } : Jvm.MethodName) prog_8_method_31_code (5 : Nat) (Option.some Jvm.ClassFile.FieldType.boolean)) ∈ xTB := x_t4 118 rfl rfl
theorem tw_839 : (Jvm.Cond.methodLink "FileBuilderModel" (147 : Nat) ({ cls := "FileBuilderModel", name := "refuse", desc := "(I)I" } : Jvm.MethodName)) ∈ xTB := x_t4 119 rfl rfl
theorem tw_841 : (Jvm.Cond.instanceMethod ({ cls := "FileBuilderModel", name := "refuse", desc := "(I)I" } : Jvm.MethodName)) ∈ xTB := x_t4 121 rfl rfl
theorem tw_842 : (Jvm.Cond.code ({ cls := "FileBuilderModel", name := "refuse", desc := "(I)I" } : Jvm.MethodName) prog_8_method_3_code (2 : Nat) (Option.some Jvm.ClassFile.FieldType.int)) ∈ xTB := x_t4 122 rfl rfl
theorem tw_843 : (Jvm.Cond.methodLink "FileBuilderModel" (150 : Nat) ({ cls := "FileBuilderModel", name := "isMissing", desc := "(I)Z" } : Jvm.MethodName)) ∈ xTB := x_t4 123 rfl rfl
theorem tw_845 : (Jvm.Cond.instanceMethod ({ cls := "FileBuilderModel", name := "isMissing", desc := "(I)Z" } : Jvm.MethodName)) ∈ xTB := x_t4 125 rfl rfl
theorem tw_846 : (Jvm.Cond.code ({ cls := "FileBuilderModel", name := "isMissing", desc := "(I)Z" } : Jvm.MethodName) prog_8_method_29_code (4 : Nat) (Option.some Jvm.ClassFile.FieldType.boolean)) ∈ xTB := x_t4 126 rfl rfl
theorem tw_847 : (Jvm.Cond.methodLink "FileBuilderModel" (159 : Nat) ({ cls := "FileBuilderModel", name := "findNewest", desc := "()V" } : Jvm.MethodName)) ∈ xTB := x_t4 127 rfl rfl
theorem tw_849 : (Jvm.Cond.instanceMethod ({ cls := "FileBuilderModel", name := "findNewest", desc := "()V" } : Jvm.MethodName)) ∈ xTB := x_t4 129 rfl rfl
theorem tw_850 : (Jvm.Cond.code ({ cls := "FileBuilderModel", name := "findNewest", desc := "()V" } : Jvm.MethodName) prog_8_method_22_code (2 : Nat) (Option.none : Option Jvm.ClassFile.FieldType)) ∈ xTB := x_t4 130 rfl rfl
theorem tw_851 : (Jvm.Cond.methodLink "FileBuilderModel" (122 : Nat) ({ cls := "FileBuilderModel", name := "newestOf", desc := "(I)I" } : Jvm.MethodName)) ∈ xTB := x_t4 131 rfl rfl
theorem tw_853 : (Jvm.Cond.instanceMethod ({ cls := "FileBuilderModel", name := "newestOf", desc := "(I)I" } : Jvm.MethodName)) ∈ xTB := x_t4 133 rfl rfl
theorem tw_854 : (Jvm.Cond.code ({ cls := "FileBuilderModel", name := "newestOf", desc := "(I)I" } : Jvm.MethodName) prog_8_method_21_code (6 : Nat) (Option.some Jvm.ClassFile.FieldType.int)) ∈ xTB := x_t4 134 rfl rfl
theorem tw_855 : (Jvm.Cond.methodLink "FileBuilderModel" (131 : Nat) ({ cls := "FileBuilderModel", name := "any", desc := "(I)Z" } : Jvm.MethodName)) ∈ xTB := x_t4 135 rfl rfl
theorem tw_857 : (Jvm.Cond.instanceMethod ({ cls := "FileBuilderModel", name := "any", desc := "(I)Z" } : Jvm.MethodName)) ∈ xTB := x_t4 137 rfl rfl
theorem tw_858 : (Jvm.Cond.code ({ cls := "FileBuilderModel", name := "any", desc := "(I)Z" } : Jvm.MethodName) prog_8_method_24_code (4 : Nat) (Option.some Jvm.ClassFile.FieldType.boolean)) ∈ xTB := x_t4 138 rfl rfl
theorem tw_859 : (Jvm.Cond.methodLink "FileBuilderModel" (125 : Nat) ({ cls := "FileBuilderModel", name := "open", desc := "(I)Z" } : Jvm.MethodName)) ∈ xTB := x_t4 139 rfl rfl
theorem tw_861 : (Jvm.Cond.instanceMethod ({ cls := "FileBuilderModel", name := "open", desc := "(I)Z" } : Jvm.MethodName)) ∈ xTB := x_t4 141 rfl rfl
theorem tw_862 : (Jvm.Cond.code ({ cls := "FileBuilderModel", name := "open", desc := "(I)Z" } : Jvm.MethodName) prog_8_method_23_code (2 : Nat) (Option.some Jvm.ClassFile.FieldType.boolean)) ∈ xTB := x_t4 142 rfl rfl
theorem tw_863 : (Jvm.Cond.methodLink "FileBuilderModel" (162 : Nat) ({ cls := "FileBuilderModel", name := "outOfDate", desc := "(I)Z" } : Jvm.MethodName)) ∈ xTB := x_t4 143 rfl rfl
theorem tw_865 : (Jvm.Cond.instanceMethod ({ cls := "FileBuilderModel", name := "outOfDate", desc := "(I)Z" } : Jvm.MethodName)) ∈ xTB := x_t4 145 rfl rfl
theorem tw_866 : (Jvm.Cond.code ({ cls := "FileBuilderModel", name := "outOfDate", desc := "(I)Z" } : Jvm.MethodName) prog_8_method_27_code (4 : Nat) (Option.some Jvm.ClassFile.FieldType.boolean)) ∈ xTB := x_t4 146 rfl rfl
theorem tw_867 : (Jvm.Cond.methodLink "FileBuilderModel" (134 : Nat) ({ cls := "FileBuilderModel", name := "old", desc := "(II)Z" } : Jvm.MethodName)) ∈ xTB := x_t4 147 rfl rfl
theorem tw_869 : (Jvm.Cond.instanceMethod ({ cls := "FileBuilderModel", name := "old", desc := "(II)Z" } : Jvm.MethodName)) ∈ xTB := x_t4 149 rfl rfl
theorem tw_870 : (Jvm.Cond.code ({ cls := "FileBuilderModel", name := "old", desc := "(II)Z" } : Jvm.MethodName) prog_8_method_26_code (5 : Nat) (Option.some Jvm.ClassFile.FieldType.boolean)) ∈ xTB := x_t4 150 rfl rfl
theorem tw_871 : (Jvm.Cond.methodLink "FileBuilderLaw" (106 : Nat) ({ cls := "FileBuilderModel", name := "start", desc := "()I" } : Jvm.MethodName)) ∈ xTB := x_t4 151 rfl rfl
theorem tw_872 : (Jvm.Cond.instanceMethod ({ cls := "FileBuilderModel", name := "start", desc := "()I" } : Jvm.MethodName)) ∈ xTB := x_t4 152 rfl rfl
theorem tw_873 : (Jvm.Cond.selects "FileBuilderModel" ({ cls := "FileBuilderModel", name := "start", desc := "()I" } : Jvm.MethodName) ({ cls := "FileBuilderModel", name := "start", desc := "()I" } : Jvm.MethodName)) ∈ xTB := x_t4 153 rfl rfl
theorem tw_874 : (Jvm.Cond.code ({ cls := "FileBuilderModel", name := "start", desc := "()I" } : Jvm.MethodName) prog_8_method_35_code (2 : Nat) (Option.some Jvm.ClassFile.FieldType.int)) ∈ xTB := x_t4 154 rfl rfl
theorem tw_875 : (Jvm.Cond.methodLink "FileBuilderModel" (176 : Nat) ({ cls := "FileBuilderModel", name := "next", desc := "()I" } : Jvm.MethodName)) ∈ xTB := x_t4 155 rfl rfl
theorem tw_877 : (Jvm.Cond.instanceMethod ({ cls := "FileBuilderModel", name := "next", desc := "()I" } : Jvm.MethodName)) ∈ xTB := x_t4 157 rfl rfl
theorem tw_878 : (Jvm.Cond.code ({ cls := "FileBuilderModel", name := "next", desc := "()I" } : Jvm.MethodName) prog_8_method_34_code (3 : Nat) (Option.some Jvm.ClassFile.FieldType.int)) ∈ xTB := x_t4 158 rfl rfl
theorem tw_879 : (Jvm.Cond.methodLink "FileBuilderModel" (168 : Nat) ({ cls := "FileBuilderModel", name := "count", desc := "(II)I" } : Jvm.MethodName)) ∈ xTB := x_t4 159 rfl rfl
theorem tw_881 : (Jvm.Cond.instanceMethod ({ cls := "FileBuilderModel", name := "count", desc := "(II)I" } : Jvm.MethodName)) ∈ xTB := x_t4 161 rfl rfl
theorem tw_882 : (Jvm.Cond.code ({ cls := "FileBuilderModel", name := "count", desc := "(II)I" } : Jvm.MethodName) prog_8_method_33_code (5 : Nat) (Option.some Jvm.ClassFile.FieldType.int)) ∈ xTB := x_t4 162 rfl rfl
theorem tw_883 : (Jvm.Cond.methodLink "FileBuilderModel" (172 : Nat) ({ cls := "FileBuilderModel", name := "markPhonies", desc := "(Z)V" } : Jvm.MethodName)) ∈ xTB := x_t4 163 rfl rfl
theorem tw_885 : (Jvm.Cond.instanceMethod ({ cls := "FileBuilderModel", name := "markPhonies", desc := "(Z)V" } : Jvm.MethodName)) ∈ xTB := x_t4 165 rfl rfl
theorem tw_886 : (Jvm.Cond.code ({ cls := "FileBuilderModel", name := "markPhonies", desc := "(Z)V" } : Jvm.MethodName) prog_8_method_25_code (4 : Nat) (Option.none : Option Jvm.ClassFile.FieldType)) ∈ xTB := x_t4 166 rfl rfl
theorem tw_887 : (Jvm.Cond.methodLink "FileBuilderLaw" (110 : Nat) ({ cls := "FileBuilderModel", name := "finish", desc := "(IZ)I" } : Jvm.MethodName)) ∈ xTB := x_t4 167 rfl rfl
theorem tw_888 : (Jvm.Cond.instanceMethod ({ cls := "FileBuilderModel", name := "finish", desc := "(IZ)I" } : Jvm.MethodName)) ∈ xTB := x_t4 168 rfl rfl
theorem tw_889 : (Jvm.Cond.selects "FileBuilderModel" ({ cls := "FileBuilderModel", name := "finish", desc := "(IZ)I" } : Jvm.MethodName) ({ cls := "FileBuilderModel", name := "finish", desc := "(IZ)I" } : Jvm.MethodName)) ∈ xTB := x_t4 169 rfl rfl
theorem tw_890 : (Jvm.Cond.code ({ cls := "FileBuilderModel", name := "finish", desc := "(IZ)I" } : Jvm.MethodName) prog_8_method_40_code (4 : Nat) (Option.some Jvm.ClassFile.FieldType.int)) ∈ xTB := x_t4 170 rfl rfl
theorem tw_891 : (Jvm.Cond.methodLink "FileBuilderModel" (194 : Nat) ({ cls := "FileBuilderModel", name := "make", desc := "(I)V" } : Jvm.MethodName)) ∈ xTB := x_t4 171 rfl rfl
theorem tw_893 : (Jvm.Cond.instanceMethod ({ cls := "FileBuilderModel", name := "make", desc := "(I)V" } : Jvm.MethodName)) ∈ xTB := x_t4 173 rfl rfl
theorem tw_894 : (Jvm.Cond.code ({ cls := "FileBuilderModel", name := "make", desc := "(I)V" } : Jvm.MethodName) prog_8_method_36_code (5 : Nat) (Option.none : Option Jvm.ClassFile.FieldType)) ∈ xTB := x_t4 174 rfl rfl
theorem tw_895 : (Jvm.Cond.methodLink "FileBuilderModel" (180 : Nat) ({ cls := "FileBuilderModel", name := "mix", desc := "(II)I" } : Jvm.MethodName)) ∈ xTB := x_t4 175 rfl rfl
theorem tw_896 : (Jvm.Cond.static ({ cls := "FileBuilderModel", name := "mix", desc := "(II)I" } : Jvm.MethodName)) ∈ xTB := x_t4 176 rfl rfl
theorem tw_897 : (Jvm.Cond.code ({ cls := "FileBuilderModel", name := "mix", desc := "(II)I" } : Jvm.MethodName) prog_8_method_6_code (3 : Nat) (Option.some Jvm.ClassFile.FieldType.int)) ∈ xTB := x_t4 177 rfl rfl
theorem tw_898 : (Jvm.Cond.constant "FileBuilderModel" (78 : Nat) (73244475 : Int32)) ∈ xTB := x_t4 178 rfl rfl
theorem tw_899 : (Jvm.Cond.methodLink "FileBuilderModel" (183 : Nat) ({ cls := "FileBuilderModel", name := "record", desc := "(III)V" } : Jvm.MethodName)) ∈ xTB := x_t4 179 rfl rfl
theorem tw_901 : (Jvm.Cond.instanceMethod ({ cls := "FileBuilderModel", name := "record", desc := "(III)V" } : Jvm.MethodName)) ∈ xTB := x_t4 181 rfl rfl
theorem tw_902 : (Jvm.Cond.code ({ cls := "FileBuilderModel", name := "record", desc := "(III)V" } : Jvm.MethodName) prog_8_method_38_code (5 : Nat) (Option.none : Option Jvm.ClassFile.FieldType)) ∈ xTB := x_t4 182 rfl rfl
theorem tw_903 : (Jvm.Cond.methodLink "FileBuilderModel" (190 : Nat) ({ cls := "FileBuilderModel", name := "append", desc := "(I)V" } : Jvm.MethodName)) ∈ xTB := x_t4 183 rfl rfl
theorem tw_905 : (Jvm.Cond.instanceMethod ({ cls := "FileBuilderModel", name := "append", desc := "(I)V" } : Jvm.MethodName)) ∈ xTB := x_t4 185 rfl rfl
theorem tw_906 : (Jvm.Cond.code ({ cls := "FileBuilderModel", name := "append", desc := "(I)V" } : Jvm.MethodName) prog_8_method_37_code (5 : Nat) (Option.none : Option Jvm.ClassFile.FieldType)) ∈ xTB := x_t4 186 rfl rfl
theorem tw_907 : (Jvm.Cond.methodLink "FileBuilderModel" (197 : Nat) ({ cls := "FileBuilderModel", name := "letGo", desc := "()I" } : Jvm.MethodName)) ∈ xTB := x_t4 187 rfl rfl
theorem tw_909 : (Jvm.Cond.instanceMethod ({ cls := "FileBuilderModel", name := "letGo", desc := "()I" } : Jvm.MethodName)) ∈ xTB := x_t4 189 rfl rfl
theorem tw_910 : (Jvm.Cond.code ({ cls := "FileBuilderModel", name := "letGo", desc := "()I" } : Jvm.MethodName) prog_8_method_39_code (4 : Nat) (Option.some Jvm.ClassFile.FieldType.int)) ∈ xTB := x_t4 190 rfl rfl
theorem tw_911 : (Jvm.Cond.methodLink "FileBuilderLaw" (114 : Nat) ({ cls := "FileBuilderModel", name := "state", desc := "()I" } : Jvm.MethodName)) ∈ xTB := x_t4 191 rfl rfl
theorem tw_912 : (Jvm.Cond.instanceMethod ({ cls := "FileBuilderModel", name := "state", desc := "()I" } : Jvm.MethodName)) ∈ xTB := x_t4 192 rfl rfl
theorem tw_913 : (Jvm.Cond.selects "FileBuilderModel" ({ cls := "FileBuilderModel", name := "state", desc := "()I" } : Jvm.MethodName) ({ cls := "FileBuilderModel", name := "state", desc := "()I" } : Jvm.MethodName)) ∈ xTB := x_t4 193 rfl rfl
theorem tw_914 : (Jvm.Cond.code ({ cls := "FileBuilderModel", name := "state", desc := "()I" } : Jvm.MethodName) prog_8_method_41_code (1 : Nat) (Option.some Jvm.ClassFile.FieldType.int)) ∈ xTB := x_t4 194 rfl rfl
theorem tw_915 : (Jvm.Cond.methodLink "FileBuilderLaw" (118 : Nat) ({ cls := "FileBuilderModel", name := "about", desc := "(I)I" } : Jvm.MethodName)) ∈ xTB := x_t4 195 rfl rfl
theorem tw_916 : (Jvm.Cond.instanceMethod ({ cls := "FileBuilderModel", name := "about", desc := "(I)I" } : Jvm.MethodName)) ∈ xTB := x_t4 196 rfl rfl
theorem tw_917 : (Jvm.Cond.selects "FileBuilderModel" ({ cls := "FileBuilderModel", name := "about", desc := "(I)I" } : Jvm.MethodName) ({ cls := "FileBuilderModel", name := "about", desc := "(I)I" } : Jvm.MethodName)) ∈ xTB := x_t4 197 rfl rfl
theorem tw_918 : (Jvm.Cond.code ({ cls := "FileBuilderModel", name := "about", desc := "(I)I" } : Jvm.MethodName) prog_8_method_42_code (2 : Nat) (Option.some Jvm.ClassFile.FieldType.int)) ∈ xTB := x_t4 198 rfl rfl
theorem tw_919 : (Jvm.Cond.methodLink "FileBuilderLaw" (122 : Nat) ({ cls := "FileBuilderModel", name := "file", desc := "(II)I" } : Jvm.MethodName)) ∈ xTB := x_t4 199 rfl rfl
theorem tw_920 : (Jvm.Cond.instanceMethod ({ cls := "FileBuilderModel", name := "file", desc := "(II)I" } : Jvm.MethodName)) ∈ xTB := x_t4 200 rfl rfl
theorem tw_921 : (Jvm.Cond.selects "FileBuilderModel" ({ cls := "FileBuilderModel", name := "file", desc := "(II)I" } : Jvm.MethodName) ({ cls := "FileBuilderModel", name := "file", desc := "(II)I" } : Jvm.MethodName)) ∈ xTB := x_t4 201 rfl rfl
theorem tw_922 : (Jvm.Cond.code ({ cls := "FileBuilderModel", name := "file", desc := "(II)I" } : Jvm.MethodName) prog_8_method_43_code (3 : Nat) (Option.some Jvm.ClassFile.FieldType.int)) ∈ xTB := x_t4 202 rfl rfl
theorem tw_923 : (Jvm.Cond.methodLink "FileBuilderLaw" (125 : Nat) ({ cls := "FileBuilderModel", name := "commandOf", desc := "(I)I" } : Jvm.MethodName)) ∈ xTB := x_t4 203 rfl rfl
theorem tw_924 : (Jvm.Cond.instanceMethod ({ cls := "FileBuilderModel", name := "commandOf", desc := "(I)I" } : Jvm.MethodName)) ∈ xTB := x_t4 204 rfl rfl
theorem tw_925 : (Jvm.Cond.selects "FileBuilderModel" ({ cls := "FileBuilderModel", name := "commandOf", desc := "(I)I" } : Jvm.MethodName) ({ cls := "FileBuilderModel", name := "commandOf", desc := "(I)I" } : Jvm.MethodName)) ∈ xTB := x_t4 205 rfl rfl
theorem tw_926 : (Jvm.Cond.code ({ cls := "FileBuilderModel", name := "commandOf", desc := "(I)I" } : Jvm.MethodName) prog_8_method_44_code (2 : Nat) (Option.some Jvm.ClassFile.FieldType.int)) ∈ xTB := x_t4 206 rfl rfl
theorem tw_927 : (Jvm.Cond.methodLink "FileBuilderLaw" (129 : Nat) ({ cls := "FileBuilderModel", name := "log", desc := "(I)I" } : Jvm.MethodName)) ∈ xTB := x_t4 207 rfl rfl
theorem tw_928 : (Jvm.Cond.instanceMethod ({ cls := "FileBuilderModel", name := "log", desc := "(I)I" } : Jvm.MethodName)) ∈ xTB := x_t4 208 rfl rfl
theorem tw_929 : (Jvm.Cond.selects "FileBuilderModel" ({ cls := "FileBuilderModel", name := "log", desc := "(I)I" } : Jvm.MethodName) ({ cls := "FileBuilderModel", name := "log", desc := "(I)I" } : Jvm.MethodName)) ∈ xTB := x_t4 209 rfl rfl
theorem tw_930 : (Jvm.Cond.code ({ cls := "FileBuilderModel", name := "log", desc := "(I)I" } : Jvm.MethodName) prog_8_method_45_code (2 : Nat) (Option.some Jvm.ClassFile.FieldType.int)) ∈ xTB := x_t4 210 rfl rfl
theorem tw_931 : (Jvm.Cond.methodLink "FileBuilderLaw" (132 : Nat) ({ cls := "FileBuilderModel", name := "cut", desc := "(I)I" } : Jvm.MethodName)) ∈ xTB := x_t4 211 rfl rfl
theorem tw_932 : (Jvm.Cond.instanceMethod ({ cls := "FileBuilderModel", name := "cut", desc := "(I)I" } : Jvm.MethodName)) ∈ xTB := x_t4 212 rfl rfl
theorem tw_933 : (Jvm.Cond.selects "FileBuilderModel" ({ cls := "FileBuilderModel", name := "cut", desc := "(I)I" } : Jvm.MethodName) ({ cls := "FileBuilderModel", name := "cut", desc := "(I)I" } : Jvm.MethodName)) ∈ xTB := x_t4 213 rfl rfl
theorem tw_934 : (Jvm.Cond.code ({ cls := "FileBuilderModel", name := "cut", desc := "(I)I" } : Jvm.MethodName) prog_8_method_47_code (5 : Nat) (Option.some Jvm.ClassFile.FieldType.int)) ∈ xTB := x_t4 214 rfl rfl
theorem tw_935 : (Jvm.Cond.methodLink "FileBuilderModel" (200 : Nat) ({ cls := "FileBuilderModel", name := "right", desc := "(I)Z" } : Jvm.MethodName)) ∈ xTB := x_t4 215 rfl rfl
theorem tw_937 : (Jvm.Cond.instanceMethod ({ cls := "FileBuilderModel", name := "right", desc := "(I)Z" } : Jvm.MethodName)) ∈ xTB := x_t4 217 rfl rfl
theorem tw_938 : (Jvm.Cond.code ({ cls := "FileBuilderModel", name := "right", desc := "(I)Z" } : Jvm.MethodName) prog_8_method_46_code (4 : Nat) (Option.some Jvm.ClassFile.FieldType.boolean)) ∈ xTB := x_t4 218 rfl rfl
theorem tw_939 : (Jvm.Cond.methodLink "FileBuilderLaw" (137 : Nat) ({ cls := "FileBuilderModel", name := "spoil", desc := "(II)Z" } : Jvm.MethodName)) ∈ xTB := x_t4 219 rfl rfl
theorem tw_940 : (Jvm.Cond.instanceMethod ({ cls := "FileBuilderModel", name := "spoil", desc := "(II)Z" } : Jvm.MethodName)) ∈ xTB := x_t4 220 rfl rfl
theorem tw_941 : (Jvm.Cond.selects "FileBuilderModel" ({ cls := "FileBuilderModel", name := "spoil", desc := "(II)Z" } : Jvm.MethodName) ({ cls := "FileBuilderModel", name := "spoil", desc := "(II)Z" } : Jvm.MethodName)) ∈ xTB := x_t4 221 rfl rfl
theorem tw_942 : (Jvm.Cond.code ({ cls := "FileBuilderModel", name := "spoil", desc := "(II)Z" } : Jvm.MethodName) prog_8_method_48_code (3 : Nat) (Option.some Jvm.ClassFile.FieldType.boolean)) ∈ xTB := x_t4 222 rfl rfl
theorem tw_943 : (Jvm.Cond.arrayClass Jvm.ClassFile.FieldType.long) ∈ xTB := x_t4 223 rfl rfl
theorem tw_944 : (Jvm.Cond.sameMethod "java/lang/Throwable" "java/lang/Throwable" "fillInStackTrace" "(I)Ljava/lang/Throwable;") ∈ xTB := x_t4 224 rfl rfl
end
section
/-! words of a class's layout, words of a method -/
theorem u_Bu : ∀ w ∈ u_ws R_Bu F_Bu 4, w ∈ xTB := List.forall_mem_cons.mpr ⟨tw_136, List.forall_mem_cons.mpr ⟨tw_138, List.forall_mem_cons.mpr ⟨tw_140, List.forall_mem_cons.mpr ⟨tw_142, fun _ h => absurd h List.not_mem_nil⟩⟩⟩⟩
theorem u_Di : ∀ w ∈ u_ws R_Di F_Di 4, w ∈ xTB := List.forall_mem_cons.mpr ⟨tw_38, List.forall_mem_cons.mpr ⟨tw_40, List.forall_mem_cons.mpr ⟨tw_42, List.forall_mem_cons.mpr ⟨tw_44, fun _ h => absurd h List.not_mem_nil⟩⟩⟩⟩
theorem u_Gr : ∀ w ∈ u_ws R_Gr F_Gr 6, w ∈ xTB := List.forall_mem_cons.mpr ⟨tw_67, List.forall_mem_cons.mpr ⟨tw_69, List.forall_mem_cons.mpr ⟨tw_71, List.forall_mem_cons.mpr ⟨tw_73, List.forall_mem_cons.mpr ⟨tw_75, List.forall_mem_cons.mpr ⟨tw_77, fun _ h => absurd h List.not_mem_nil⟩⟩⟩⟩⟩⟩
theorem u_Re : ∀ w ∈ u_ws R_Re F_Re 2, w ∈ xTB := List.forall_mem_cons.mpr ⟨tw_90, List.forall_mem_cons.mpr ⟨tw_92, fun _ h => absurd h List.not_mem_nil⟩⟩
theorem u_RL : ∀ w ∈ u_ws R_RL F_RL 4, w ∈ xTB := List.forall_mem_cons.mpr ⟨tw_113, List.forall_mem_cons.mpr ⟨tw_115, List.forall_mem_cons.mpr ⟨tw_117, List.forall_mem_cons.mpr ⟨tw_119, fun _ h => absurd h List.not_mem_nil⟩⟩⟩⟩
theorem u_FB : ∀ w ∈ u_ws R_FB F_FB 6, w ∈ xTB := List.forall_mem_cons.mpr ⟨tw_152, List.forall_mem_cons.mpr ⟨tw_154, List.forall_mem_cons.mpr ⟨tw_156, List.forall_mem_cons.mpr ⟨tw_158, List.forall_mem_cons.mpr ⟨tw_160, List.forall_mem_cons.mpr ⟨tw_162, fun _ h => absurd h List.not_mem_nil⟩⟩⟩⟩⟩⟩
theorem u_Mo : ∀ w ∈ u_ws R_Mo F_Mo 30, w ∈ xTB := List.forall_mem_cons.mpr ⟨tw_695, List.forall_mem_cons.mpr ⟨tw_697, List.forall_mem_cons.mpr ⟨tw_699, List.forall_mem_cons.mpr ⟨tw_701, List.forall_mem_cons.mpr ⟨tw_703, List.forall_mem_cons.mpr ⟨tw_705, List.forall_mem_cons.mpr ⟨tw_707, List.forall_mem_cons.mpr ⟨tw_709, List.forall_mem_cons.mpr ⟨tw_711, List.forall_mem_cons.mpr ⟨tw_713, List.forall_mem_cons.mpr ⟨tw_715, List.forall_mem_cons.mpr ⟨tw_717, List.forall_mem_cons.mpr ⟨tw_719, List.forall_mem_cons.mpr ⟨tw_721, List.forall_mem_cons.mpr ⟨tw_723, List.forall_mem_cons.mpr ⟨tw_725, List.forall_mem_cons.mpr ⟨tw_727, List.forall_mem_cons.mpr ⟨tw_729, List.forall_mem_cons.mpr ⟨tw_731, List.forall_mem_cons.mpr ⟨tw_733, List.forall_mem_cons.mpr ⟨tw_735, List.forall_mem_cons.mpr ⟨tw_737, List.forall_mem_cons.mpr ⟨tw_739, List.forall_mem_cons.mpr ⟨tw_741, List.forall_mem_cons.mpr ⟨tw_743, List.forall_mem_cons.mpr ⟨tw_745, List.forall_mem_cons.mpr ⟨tw_747, List.forall_mem_cons.mpr ⟨tw_749, List.forall_mem_cons.mpr ⟨tw_751, List.forall_mem_cons.mpr ⟨tw_753, fun _ h => absurd h List.not_mem_nil⟩⟩⟩⟩⟩⟩⟩⟩⟩⟩⟩⟩⟩⟩⟩⟩⟩⟩⟩⟩⟩⟩⟩⟩⟩⟩⟩⟩⟩⟩
abbrev w_FB_init : List Cond := Cond.code y_FB_init b_FB_init 1 (Option.none : Option Jvm.ClassFile.FieldType) :: xTB
theorem k_FB_init : Cond.code y_FB_init b_FB_init 1 (Option.none : Option Jvm.ClassFile.FieldType) ∈ xTB := tw_21
abbrev w_FB_edge : List Cond := Cond.code y_FB_edge b_FB_edge 4 (some .int) :: xTB
theorem k_FB_edge : Cond.code y_FB_edge b_FB_edge 4 (some .int) ∈ xTB := tw_240
abbrev w_FB_link : List Cond := Cond.code y_FB_link b_FB_link 4 (Option.none : Option Jvm.ClassFile.FieldType) :: xTB
theorem k_FB_link : Cond.code y_FB_link b_FB_link 4 (Option.none : Option Jvm.ClassFile.FieldType) ∈ xTB := tw_344
abbrev w_FB_reads : List Cond := Cond.code y_FB_reads b_FB_reads 4 (Option.none : Option Jvm.ClassFile.FieldType) :: xTB
theorem k_FB_reads : Cond.code y_FB_reads b_FB_reads 4 (Option.none : Option Jvm.ClassFile.FieldType) ∈ xTB := tw_381
abbrev w_FB_command : List Cond := Cond.code y_FB_command b_FB_command 3 (Option.none : Option Jvm.ClassFile.FieldType) :: xTB
theorem k_FB_command : Cond.code y_FB_command b_FB_command 3 (Option.none : Option Jvm.ClassFile.FieldType) ∈ xTB := tw_390
abbrev w_FB_pool : List Cond := Cond.code y_FB_pool b_FB_pool 3 (Option.none : Option Jvm.ClassFile.FieldType) :: xTB
theorem k_FB_pool : Cond.code y_FB_pool b_FB_pool 3 (Option.none : Option Jvm.ClassFile.FieldType) ∈ xTB := tw_403
abbrev w_FB_write : List Cond := Cond.code y_FB_write b_FB_write 3 (Option.none : Option Jvm.ClassFile.FieldType) :: xTB
theorem k_FB_write : Cond.code y_FB_write b_FB_write 3 (Option.none : Option Jvm.ClassFile.FieldType) ∈ xTB := tw_411
abbrev w_FB_remove : List Cond := Cond.code y_FB_remove b_FB_remove 2 (Option.none : Option Jvm.ClassFile.FieldType) :: xTB
theorem k_FB_remove : Cond.code y_FB_remove b_FB_remove 2 (Option.none : Option Jvm.ClassFile.FieldType) ∈ xTB := tw_428
abbrev w_FB_begin : List Cond := Cond.code y_FB_begin b_FB_begin 5 (some .int) :: xTB
theorem k_FB_begin : Cond.code y_FB_begin b_FB_begin 5 (some .int) ∈ xTB := tw_457
abbrev w_FB_start : List Cond := Cond.code y_FB_start b_FB_start 2 (some .int) :: xTB
theorem k_FB_start : Cond.code y_FB_start b_FB_start 2 (some .int) ∈ xTB := tw_168
abbrev w_FB_finish : List Cond := Cond.code y_FB_finish b_FB_finish 4 (some .int) :: xTB
theorem k_FB_finish : Cond.code y_FB_finish b_FB_finish 4 (some .int) ∈ xTB := tw_556
abbrev w_FB_state : List Cond := Cond.code y_FB_state b_FB_state 1 (some .int) :: xTB
theorem k_FB_state : Cond.code y_FB_state b_FB_state 1 (some .int) ∈ xTB := tw_216
abbrev w_FB_about : List Cond := Cond.code y_FB_about b_FB_about 2 (some .int) :: xTB
theorem k_FB_about : Cond.code y_FB_about b_FB_about 2 (some .int) ∈ xTB := tw_605
abbrev w_FB_file : List Cond := Cond.code y_FB_file b_FB_file 3 (some .int) :: xTB
theorem k_FB_file : Cond.code y_FB_file b_FB_file 3 (some .int) ∈ xTB := tw_617
abbrev w_FB_commandOf : List Cond := Cond.code y_FB_commandOf b_FB_commandOf 2 (some .int) :: xTB
theorem k_FB_commandOf : Cond.code y_FB_commandOf b_FB_commandOf 2 (some .int) ∈ xTB := tw_626
abbrev w_FB_log : List Cond := Cond.code y_FB_log b_FB_log 2 (some .int) :: xTB
theorem k_FB_log : Cond.code y_FB_log b_FB_log 2 (some .int) ∈ xTB := tw_220
abbrev w_FB_cut : List Cond := Cond.code y_FB_cut b_FB_cut 2 (some .int) :: xTB
theorem k_FB_cut : Cond.code y_FB_cut b_FB_cut 2 (some .int) ∈ xTB := tw_633
abbrev w_FB_spoil : List Cond := Cond.code y_FB_spoil b_FB_spoil 3 (some .boolean) :: xTB
theorem k_FB_spoil : Cond.code y_FB_spoil b_FB_spoil 3 (some .boolean) ∈ xTB := tw_231
abbrev w_FB_isIn : List Cond := Cond.code y_FB_isIn b_FB_isIn 3 (some .boolean) :: xTB
theorem k_FB_isIn : Cond.code y_FB_isIn b_FB_isIn 3 (some .boolean) ∈ xTB := tw_227
abbrev w_FB_isFile : List Cond := Cond.code y_FB_isFile b_FB_isFile 1 (some .boolean) :: xTB
theorem k_FB_isFile : Cond.code y_FB_isFile b_FB_isFile 1 (some .boolean) ∈ xTB := tw_352
abbrev w_FB_isCommand : List Cond := Cond.code y_FB_isCommand b_FB_isCommand 1 (some .boolean) :: xTB
theorem k_FB_isCommand : Cond.code y_FB_isCommand b_FB_isCommand 1 (some .boolean) ∈ xTB := tw_243
abbrev w_FB_areFlags : List Cond := Cond.code y_FB_areFlags b_FB_areFlags 1 (some .boolean) :: xTB
theorem k_FB_areFlags : Cond.code y_FB_areFlags b_FB_areFlags 1 (some .boolean) ∈ xTB := tw_248
abbrev w_FB_has : List Cond := Cond.code y_FB_has b_FB_has 2 (some .boolean) :: xTB
theorem k_FB_has : Cond.code y_FB_has b_FB_has 2 (some .boolean) ∈ xTB := tw_364
abbrev w_FB_mix : List Cond := Cond.code y_FB_mix b_FB_mix 3 (some .int) :: xTB
theorem k_FB_mix : Cond.code y_FB_mix b_FB_mix 3 (some .int) ∈ xTB := tw_573
abbrev w_FB_refuseUnderWay : List Cond := Cond.code y_FB_refuseUnderWay b_FB_refuseUnderWay 1 (Option.none : Option Jvm.ClassFile.FieldType) :: xTB
theorem k_FB_refuseUnderWay : Cond.code y_FB_refuseUnderWay b_FB_refuseUnderWay 1 (Option.none : Option Jvm.ClassFile.FieldType) ∈ xTB := tw_395
abbrev w_FB_refuseUnknownEdge : List Cond := Cond.code y_FB_refuseUnknownEdge b_FB_refuseUnknownEdge 2 (Option.none : Option Jvm.ClassFile.FieldType) :: xTB
theorem k_FB_refuseUnknownEdge : Cond.code y_FB_refuseUnknownEdge b_FB_refuseUnknownEdge 2 (Option.none : Option Jvm.ClassFile.FieldType) ∈ xTB := tw_609
abbrev w_FB_mayBecomeOutput : List Cond := Cond.code y_FB_mayBecomeOutput b_FB_mayBecomeOutput 3 (some .boolean) :: xTB
theorem k_FB_mayBecomeOutput : Cond.code y_FB_mayBecomeOutput b_FB_mayBecomeOutput 3 (some .boolean) ∈ xTB := tw_357
abbrev w_FB_isMissing : List Cond := Cond.code y_FB_isMissing b_FB_isMissing 2 (some .boolean) :: xTB
theorem k_FB_isMissing : Cond.code y_FB_isMissing b_FB_isMissing 2 (some .boolean) ∈ xTB := tw_501
abbrev w_FB_findWhatIsToRun : List Cond := Cond.code y_FB_findWhatIsToRun b_FB_findWhatIsToRun 5 (Option.none : Option Jvm.ClassFile.FieldType) :: xTB
theorem k_FB_findWhatIsToRun : Cond.code y_FB_findWhatIsToRun b_FB_findWhatIsToRun 5 (Option.none : Option Jvm.ClassFile.FieldType) ∈ xTB := tw_511
abbrev w_FB_isOutOfDate : List Cond := Cond.code y_FB_isOutOfDate b_FB_isOutOfDate 2 (some .boolean) :: xTB
theorem k_FB_isOutOfDate : Cond.code y_FB_isOutOfDate b_FB_isOutOfDate 2 (some .boolean) ∈ xTB := tw_516
abbrev w_FB_isUnknownToLog : List Cond := Cond.code y_FB_isUnknownToLog b_FB_isUnknownToLog 3 (some .boolean) :: xTB
theorem k_FB_isUnknownToLog : Cond.code y_FB_isUnknownToLog b_FB_isUnknownToLog 3 (some .boolean) ∈ xTB := tw_521
abbrev w_FB_isOlderThan : List Cond := Cond.code y_FB_isOlderThan b_FB_isOlderThan 4 (some .boolean) :: xTB
theorem k_FB_isOlderThan : Cond.code y_FB_isOlderThan b_FB_isOlderThan 4 (some .boolean) ∈ xTB := tw_537
abbrev w_FB_newest : List Cond := Cond.code y_FB_newest b_FB_newest 2 (some .int) :: xTB
theorem k_FB_newest : Cond.code y_FB_newest b_FB_newest 2 (some .int) ∈ xTB := tw_525
abbrev w_FB_isMadeByPending : List Cond := Cond.code y_FB_isMadeByPending b_FB_isMadeByPending 3 (some .boolean) :: xTB
theorem k_FB_isMadeByPending : Cond.code y_FB_isMadeByPending b_FB_isMadeByPending 3 (some .boolean) ∈ xTB := tw_208
abbrev w_FB_nextToBegin : List Cond := Cond.code y_FB_nextToBegin b_FB_nextToBegin 2 (some .int) :: xTB
theorem k_FB_nextToBegin : Cond.code y_FB_nextToBegin b_FB_nextToBegin 2 (some .int) ∈ xTB := tw_176
abbrev w_FB_hasRoomInPool : List Cond := Cond.code y_FB_hasRoomInPool b_FB_hasRoomInPool 5 (some .boolean) :: xTB
theorem k_FB_hasRoomInPool : Cond.code y_FB_hasRoomInPool b_FB_hasRoomInPool 5 (some .boolean) ∈ xTB := tw_184
abbrev w_FB_settle : List Cond := Cond.code y_FB_settle b_FB_settle 1 (Option.none : Option Jvm.ClassFile.FieldType) :: xTB
theorem k_FB_settle : Cond.code y_FB_settle b_FB_settle 1 (Option.none : Option Jvm.ClassFile.FieldType) ∈ xTB := tw_549
abbrev w_FB_endWell : List Cond := Cond.code y_FB_endWell b_FB_endWell 4 (Option.none : Option Jvm.ClassFile.FieldType) :: xTB
theorem k_FB_endWell : Cond.code y_FB_endWell b_FB_endWell 4 (Option.none : Option Jvm.ClassFile.FieldType) ∈ xTB := tw_561
abbrev w_FB_writeOutputs : List Cond := Cond.code y_FB_writeOutputs b_FB_writeOutputs 6 (Option.none : Option Jvm.ClassFile.FieldType) :: xTB
theorem k_FB_writeOutputs : Cond.code y_FB_writeOutputs b_FB_writeOutputs 6 (Option.none : Option Jvm.ClassFile.FieldType) ∈ xTB := tw_565
abbrev w_FB_mixOfWhatIsRead : List Cond := Cond.code y_FB_mixOfWhatIsRead b_FB_mixOfWhatIsRead 5 (some .int) :: xTB
theorem k_FB_mixOfWhatIsRead : Cond.code y_FB_mixOfWhatIsRead b_FB_mixOfWhatIsRead 5 (some .int) ∈ xTB := tw_569
abbrev w_FB_letGo : List Cond := Cond.code y_FB_letGo b_FB_letGo 5 (some .int) :: xTB
theorem k_FB_letGo : Cond.code y_FB_letGo b_FB_letGo 5 (some .int) ∈ xTB := tw_598
abbrev w_Mo_init : List Cond := Cond.code y_Mo_init b_Mo_init 1 (Option.none : Option Jvm.ClassFile.FieldType) :: xTB
theorem k_Mo_init : Cond.code y_Mo_init b_Mo_init 1 (Option.none : Option Jvm.ClassFile.FieldType) ∈ xTB := tw_663
abbrev w_Mo_thrown : List Cond := Cond.code y_Mo_thrown b_Mo_thrown 1 (some .int) :: xTB
theorem k_Mo_thrown : Cond.code y_Mo_thrown b_Mo_thrown 1 (some .int) ∈ xTB := tw_759
abbrev w_Mo_refuse : List Cond := Cond.code y_Mo_refuse b_Mo_refuse 2 (some .int) :: xTB
theorem k_Mo_refuse : Cond.code y_Mo_refuse b_Mo_refuse 2 (some .int) ∈ xTB := tw_842
abbrev w_Mo_outside : List Cond := Cond.code y_Mo_outside b_Mo_outside 3 (some .boolean) :: xTB
theorem k_Mo_outside : Cond.code y_Mo_outside b_Mo_outside 3 (some .boolean) ∈ xTB := tw_767
abbrev w_Mo_in : List Cond := Cond.code y_Mo_in b_Mo_in 2 (some .boolean) :: xTB
theorem k_Mo_in : Cond.code y_Mo_in b_Mo_in 2 (some .boolean) ∈ xTB := tw_785
abbrev w_Mo_mix : List Cond := Cond.code y_Mo_mix b_Mo_mix 3 (some .int) :: xTB
theorem k_Mo_mix : Cond.code y_Mo_mix b_Mo_mix 3 (some .int) ∈ xTB := tw_897
abbrev w_Mo_isEdge : List Cond := Cond.code y_Mo_isEdge b_Mo_isEdge 2 (some .boolean) :: xTB
theorem k_Mo_isEdge : Cond.code y_Mo_isEdge b_Mo_isEdge 2 (some .boolean) ∈ xTB := tw_778
abbrev w_Mo_isFile : List Cond := Cond.code y_Mo_isFile b_Mo_isFile 1 (some .boolean) :: xTB
theorem k_Mo_isFile : Cond.code y_Mo_isFile b_Mo_isFile 1 (some .boolean) ∈ xTB := tw_774
abbrev w_Mo_is : List Cond := Cond.code y_Mo_is b_Mo_is 3 (some .boolean) :: xTB
theorem k_Mo_is : Cond.code y_Mo_is b_Mo_is 3 (some .boolean) ∈ xTB := tw_782
abbrev w_Mo_needs : List Cond := Cond.code y_Mo_needs b_Mo_needs 2 (some .int) :: xTB
theorem k_Mo_needs : Cond.code y_Mo_needs b_Mo_needs 2 (some .int) ∈ xTB := tw_834
abbrev w_Mo_waits : List Cond := Cond.code y_Mo_waits b_Mo_waits 2 (some .int) :: xTB
theorem k_Mo_waits : Cond.code y_Mo_waits b_Mo_waits 2 (some .int) ∈ xTB := tw_830
abbrev w_Mo_edge : List Cond := Cond.code y_Mo_edge b_Mo_edge 5 (some .int) :: xTB
theorem k_Mo_edge : Cond.code y_Mo_edge b_Mo_edge 5 (some .int) ∈ xTB := tw_763
abbrev w_Mo_link : List Cond := Cond.code y_Mo_link b_Mo_link 7 (Option.none : Option Jvm.ClassFile.FieldType) :: xTB
theorem k_Mo_link : Cond.code y_Mo_link b_Mo_link 7 (Option.none : Option Jvm.ClassFile.FieldType) ∈ xTB := tw_771
abbrev w_Mo_reads : List Cond := Cond.code y_Mo_reads b_Mo_reads 4 (Option.none : Option Jvm.ClassFile.FieldType) :: xTB
theorem k_Mo_reads : Cond.code y_Mo_reads b_Mo_reads 4 (Option.none : Option Jvm.ClassFile.FieldType) ∈ xTB := tw_789
abbrev w_Mo_command : List Cond := Cond.code y_Mo_command b_Mo_command 3 (Option.none : Option Jvm.ClassFile.FieldType) :: xTB
theorem k_Mo_command : Cond.code y_Mo_command b_Mo_command 3 (Option.none : Option Jvm.ClassFile.FieldType) ∈ xTB := tw_793
abbrev w_Mo_pool : List Cond := Cond.code y_Mo_pool b_Mo_pool 3 (Option.none : Option Jvm.ClassFile.FieldType) :: xTB
theorem k_Mo_pool : Cond.code y_Mo_pool b_Mo_pool 3 (Option.none : Option Jvm.ClassFile.FieldType) ∈ xTB := tw_797
abbrev w_Mo_byPhony : List Cond := Cond.code y_Mo_byPhony b_Mo_byPhony 2 (some .boolean) :: xTB
theorem k_Mo_byPhony : Cond.code y_Mo_byPhony b_Mo_byPhony 2 (some .boolean) ∈ xTB := tw_805
abbrev w_Mo_put : List Cond := Cond.code y_Mo_put b_Mo_put 3 (Option.none : Option Jvm.ClassFile.FieldType) :: xTB
theorem k_Mo_put : Cond.code y_Mo_put b_Mo_put 3 (Option.none : Option Jvm.ClassFile.FieldType) ∈ xTB := tw_809
abbrev w_Mo_write : List Cond := Cond.code y_Mo_write b_Mo_write 3 (Option.none : Option Jvm.ClassFile.FieldType) :: xTB
theorem k_Mo_write : Cond.code y_Mo_write b_Mo_write 3 (Option.none : Option Jvm.ClassFile.FieldType) ∈ xTB := tw_801
abbrev w_Mo_remove : List Cond := Cond.code y_Mo_remove b_Mo_remove 2 (Option.none : Option Jvm.ClassFile.FieldType) :: xTB
theorem k_Mo_remove : Cond.code y_Mo_remove b_Mo_remove 2 (Option.none : Option Jvm.ClassFile.FieldType) ∈ xTB := tw_813
abbrev w_Mo_newestOf : List Cond := Cond.code y_Mo_newestOf b_Mo_newestOf 6 (some .int) :: xTB
theorem k_Mo_newestOf : Cond.code y_Mo_newestOf b_Mo_newestOf 6 (some .int) ∈ xTB := tw_854
abbrev w_Mo_findNewest : List Cond := Cond.code y_Mo_findNewest b_Mo_findNewest 2 (Option.none : Option Jvm.ClassFile.FieldType) :: xTB
theorem k_Mo_findNewest : Cond.code y_Mo_findNewest b_Mo_findNewest 2 (Option.none : Option Jvm.ClassFile.FieldType) ∈ xTB := tw_850
abbrev w_Mo_open : List Cond := Cond.code y_Mo_open b_Mo_open 2 (some .boolean) :: xTB
theorem k_Mo_open : Cond.code y_Mo_open b_Mo_open 2 (some .boolean) ∈ xTB := tw_862
abbrev w_Mo_any : List Cond := Cond.code y_Mo_any b_Mo_any 4 (some .boolean) :: xTB
theorem k_Mo_any : Cond.code y_Mo_any b_Mo_any 4 (some .boolean) ∈ xTB := tw_858
abbrev w_Mo_markPhonies : List Cond := Cond.code y_Mo_markPhonies b_Mo_markPhonies 4 (Option.none : Option Jvm.ClassFile.FieldType) :: xTB
theorem k_Mo_markPhonies : Cond.code y_Mo_markPhonies b_Mo_markPhonies 4 (Option.none : Option Jvm.ClassFile.FieldType) ∈ xTB := tw_886
abbrev w_Mo_old : List Cond := Cond.code y_Mo_old b_Mo_old 5 (some .boolean) :: xTB
theorem k_Mo_old : Cond.code y_Mo_old b_Mo_old 5 (some .boolean) ∈ xTB := tw_870
abbrev w_Mo_outOfDate : List Cond := Cond.code y_Mo_outOfDate b_Mo_outOfDate 4 (some .boolean) :: xTB
theorem k_Mo_outOfDate : Cond.code y_Mo_outOfDate b_Mo_outOfDate 4 (some .boolean) ∈ xTB := tw_866
abbrev w_Mo_makersOf : List Cond := Cond.code y_Mo_makersOf b_Mo_makersOf 4 (some .int) :: xTB
theorem k_Mo_makersOf : Cond.code y_Mo_makersOf b_Mo_makersOf 4 (some .int) ∈ xTB := tw_826
abbrev w_Mo_isMissing : List Cond := Cond.code y_Mo_isMissing b_Mo_isMissing 4 (some .boolean) :: xTB
theorem k_Mo_isMissing : Cond.code y_Mo_isMissing b_Mo_isMissing 4 (some .boolean) ∈ xTB := tw_846
abbrev w_Mo_reach : List Cond := Cond.code y_Mo_reach b_Mo_reach 5 (some .int) :: xTB
theorem k_Mo_reach : Cond.code y_Mo_reach b_Mo_reach 5 (some .int) ∈ xTB := tw_822
abbrev w_Mo_lay : List Cond := Cond.code y_Mo_lay b_Mo_lay 5 (some .boolean) :: xTB
theorem k_Mo_lay : Cond.code y_Mo_lay b_Mo_lay 5 (some .boolean) ∈ xTB := tw_838
abbrev w_Mo_begin : List Cond := Cond.code y_Mo_begin b_Mo_begin 9 (some .int) :: xTB
theorem k_Mo_begin : Cond.code y_Mo_begin b_Mo_begin 9 (some .int) ∈ xTB := tw_817
abbrev w_Mo_count : List Cond := Cond.code y_Mo_count b_Mo_count 5 (some .int) :: xTB
theorem k_Mo_count : Cond.code y_Mo_count b_Mo_count 5 (some .int) ∈ xTB := tw_882
abbrev w_Mo_next : List Cond := Cond.code y_Mo_next b_Mo_next 3 (some .int) :: xTB
theorem k_Mo_next : Cond.code y_Mo_next b_Mo_next 3 (some .int) ∈ xTB := tw_878
abbrev w_Mo_start : List Cond := Cond.code y_Mo_start b_Mo_start 2 (some .int) :: xTB
theorem k_Mo_start : Cond.code y_Mo_start b_Mo_start 2 (some .int) ∈ xTB := tw_874
abbrev w_Mo_make : List Cond := Cond.code y_Mo_make b_Mo_make 5 (Option.none : Option Jvm.ClassFile.FieldType) :: xTB
theorem k_Mo_make : Cond.code y_Mo_make b_Mo_make 5 (Option.none : Option Jvm.ClassFile.FieldType) ∈ xTB := tw_894
abbrev w_Mo_append : List Cond := Cond.code y_Mo_append b_Mo_append 5 (Option.none : Option Jvm.ClassFile.FieldType) :: xTB
theorem k_Mo_append : Cond.code y_Mo_append b_Mo_append 5 (Option.none : Option Jvm.ClassFile.FieldType) ∈ xTB := tw_906
abbrev w_Mo_record : List Cond := Cond.code y_Mo_record b_Mo_record 5 (Option.none : Option Jvm.ClassFile.FieldType) :: xTB
theorem k_Mo_record : Cond.code y_Mo_record b_Mo_record 5 (Option.none : Option Jvm.ClassFile.FieldType) ∈ xTB := tw_902
abbrev w_Mo_letGo : List Cond := Cond.code y_Mo_letGo b_Mo_letGo 4 (some .int) :: xTB
theorem k_Mo_letGo : Cond.code y_Mo_letGo b_Mo_letGo 4 (some .int) ∈ xTB := tw_910
abbrev w_Mo_finish : List Cond := Cond.code y_Mo_finish b_Mo_finish 4 (some .int) :: xTB
theorem k_Mo_finish : Cond.code y_Mo_finish b_Mo_finish 4 (some .int) ∈ xTB := tw_890
abbrev w_Mo_state : List Cond := Cond.code y_Mo_state b_Mo_state 1 (some .int) :: xTB
theorem k_Mo_state : Cond.code y_Mo_state b_Mo_state 1 (some .int) ∈ xTB := tw_914
abbrev w_Mo_about : List Cond := Cond.code y_Mo_about b_Mo_about 2 (some .int) :: xTB
theorem k_Mo_about : Cond.code y_Mo_about b_Mo_about 2 (some .int) ∈ xTB := tw_918
abbrev w_Mo_file : List Cond := Cond.code y_Mo_file b_Mo_file 3 (some .int) :: xTB
theorem k_Mo_file : Cond.code y_Mo_file b_Mo_file 3 (some .int) ∈ xTB := tw_922
abbrev w_Mo_commandOf : List Cond := Cond.code y_Mo_commandOf b_Mo_commandOf 2 (some .int) :: xTB
theorem k_Mo_commandOf : Cond.code y_Mo_commandOf b_Mo_commandOf 2 (some .int) ∈ xTB := tw_926
abbrev w_Mo_log : List Cond := Cond.code y_Mo_log b_Mo_log 2 (some .int) :: xTB
theorem k_Mo_log : Cond.code y_Mo_log b_Mo_log 2 (some .int) ∈ xTB := tw_930
abbrev w_Mo_right : List Cond := Cond.code y_Mo_right b_Mo_right 4 (some .boolean) :: xTB
theorem k_Mo_right : Cond.code y_Mo_right b_Mo_right 4 (some .boolean) ∈ xTB := tw_938
abbrev w_Mo_cut : List Cond := Cond.code y_Mo_cut b_Mo_cut 5 (some .int) :: xTB
theorem k_Mo_cut : Cond.code y_Mo_cut b_Mo_cut 5 (some .int) ∈ xTB := tw_934
abbrev w_Mo_spoil : List Cond := Cond.code y_Mo_spoil b_Mo_spoil 3 (some .boolean) :: xTB
theorem k_Mo_spoil : Cond.code y_Mo_spoil b_Mo_spoil 3 (some .boolean) ∈ xTB := tw_942
abbrev w_Bu_init : List Cond := Cond.code y_Bu_init b_Bu_init 1 (Option.none : Option Jvm.ClassFile.FieldType) :: xTB
theorem k_Bu_init : Cond.code y_Bu_init b_Bu_init 1 (Option.none : Option Jvm.ClassFile.FieldType) ∈ xTB := tw_126
abbrev w_Bu_isUnderWay : List Cond := Cond.code y_Bu_isUnderWay b_Bu_isUnderWay 1 (some .boolean) :: xTB
theorem k_Bu_isUnderWay : Cond.code y_Bu_isUnderWay b_Bu_isUnderWay 1 (some .boolean) ∈ xTB := tw_172
abbrev w_Bu_isPending : List Cond := Cond.code y_Bu_isPending b_Bu_isPending 2 (some .boolean) :: xTB
theorem k_Bu_isPending : Cond.code y_Bu_isPending b_Bu_isPending 2 (some .boolean) ∈ xTB := tw_212
abbrev w_Bu_countAt : List Cond := Cond.code y_Bu_countAt b_Bu_countAt 4 (some .int) :: xTB
theorem k_Bu_countAt : Cond.code y_Bu_countAt b_Bu_countAt 4 (some .int) ∈ xTB := tw_180
abbrev w_Bu_renew : List Cond := Cond.code y_Bu_renew b_Bu_renew 3 (Option.none : Option Jvm.ClassFile.FieldType) :: xTB
theorem k_Bu_renew : Cond.code y_Bu_renew b_Bu_renew 3 (Option.none : Option Jvm.ClassFile.FieldType) ∈ xTB := tw_506
abbrev w_Bu_forget : List Cond := Cond.code y_Bu_forget b_Bu_forget 1 (Option.none : Option Jvm.ClassFile.FieldType) :: xTB
theorem k_Bu_forget : Cond.code y_Bu_forget b_Bu_forget 1 (Option.none : Option Jvm.ClassFile.FieldType) ∈ xTB := tw_658
abbrev w_Di_init : List Cond := Cond.code y_Di_init b_Di_init 1 (Option.none : Option Jvm.ClassFile.FieldType) :: xTB
theorem k_Di_init : Cond.code y_Di_init b_Di_init 1 (Option.none : Option Jvm.ClassFile.FieldType) ∈ xTB := tw_29
abbrev w_Di_put : List Cond := Cond.code y_Di_put b_Di_put 3 (Option.none : Option Jvm.ClassFile.FieldType) :: xTB
theorem k_Di_put : Cond.code y_Di_put b_Di_put 3 (Option.none : Option Jvm.ClassFile.FieldType) ∈ xTB := tw_420
abbrev w_Di_erase : List Cond := Cond.code y_Di_erase b_Di_erase 2 (Option.none : Option Jvm.ClassFile.FieldType) :: xTB
theorem k_Di_erase : Cond.code y_Di_erase b_Di_erase 2 (Option.none : Option Jvm.ClassFile.FieldType) ∈ xTB := tw_449
abbrev w_Di_greatestTime : List Cond := Cond.code y_Di_greatestTime b_Di_greatestTime 4 (some .int) :: xTB
theorem k_Di_greatestTime : Cond.code y_Di_greatestTime b_Di_greatestTime 4 (some .int) ∈ xTB := tw_529
abbrev w_Gr_init : List Cond := Cond.code y_Gr_init b_Gr_init 1 (Option.none : Option Jvm.ClassFile.FieldType) :: xTB
theorem k_Gr_init : Cond.code y_Gr_init b_Gr_init 1 (Option.none : Option Jvm.ClassFile.FieldType) ∈ xTB := tw_52
abbrev w_Gr_addEdge : List Cond := Cond.code y_Gr_addEdge b_Gr_addEdge 5 (some .int) :: xTB
theorem k_Gr_addEdge : Cond.code y_Gr_addEdge b_Gr_addEdge 5 (some .int) ∈ xTB := tw_337
abbrev w_Gr_hasEdge : List Cond := Cond.code y_Gr_hasEdge b_Gr_hasEdge 2 (some .boolean) :: xTB
theorem k_Gr_hasEdge : Cond.code y_Gr_hasEdge b_Gr_hasEdge 2 (some .boolean) ∈ xTB := tw_348
abbrev w_Gr_hasFlag : List Cond := Cond.code y_Gr_hasFlag b_Gr_hasFlag 3 (some .boolean) :: xTB
theorem k_Gr_hasFlag : Cond.code y_Gr_hasFlag b_Gr_hasFlag 3 (some .boolean) ∈ xTB := tw_204
abbrev w_Gr_isPhony : List Cond := Cond.code y_Gr_isPhony b_Gr_isPhony 2 (some .boolean) :: xTB
theorem k_Gr_isPhony : Cond.code y_Gr_isPhony b_Gr_isPhony 2 (some .boolean) ∈ xTB := tw_200
abbrev w_Gr_join : List Cond := Cond.code y_Gr_join b_Gr_join 5 (Option.none : Option Jvm.ClassFile.FieldType) :: xTB
theorem k_Gr_join : Cond.code y_Gr_join b_Gr_join 5 (Option.none : Option Jvm.ClassFile.FieldType) ∈ xTB := tw_374
abbrev w_Gr_needs : List Cond := Cond.code y_Gr_needs b_Gr_needs 2 (some .int) :: xTB
theorem k_Gr_needs : Cond.code y_Gr_needs b_Gr_needs 2 (some .int) ∈ xTB := tw_196
abbrev w_Gr_waits : List Cond := Cond.code y_Gr_waits b_Gr_waits 2 (some .int) :: xTB
theorem k_Gr_waits : Cond.code y_Gr_waits b_Gr_waits 2 (some .int) ∈ xTB := tw_192
abbrev w_Gr_made : List Cond := Cond.code y_Gr_made b_Gr_made 3 (some .int) :: xTB
theorem k_Gr_made : Cond.code y_Gr_made b_Gr_made 3 (some .int) ∈ xTB := tw_361
abbrev w_Gr_madeByPhonies : List Cond := Cond.code y_Gr_madeByPhonies b_Gr_madeByPhonies 3 (some .int) :: xTB
theorem k_Gr_madeByPhonies : Cond.code y_Gr_madeByPhonies b_Gr_madeByPhonies 3 (some .int) ∈ xTB := tw_415
abbrev w_Gr_read : List Cond := Cond.code y_Gr_read b_Gr_read 3 (some .int) :: xTB
theorem k_Gr_read : Cond.code y_Gr_read b_Gr_read 3 (some .int) ∈ xTB := tw_368
abbrev w_Gr_behind : List Cond := Cond.code y_Gr_behind b_Gr_behind 7 (some .int) :: xTB
theorem k_Gr_behind : Cond.code y_Gr_behind b_Gr_behind 7 (some .int) ∈ xTB := tw_188
abbrev w_Gr_makersOf : List Cond := Cond.code y_Gr_makersOf b_Gr_makersOf 4 (some .int) :: xTB
theorem k_Gr_makersOf : Cond.code y_Gr_makersOf b_Gr_makersOf 4 (some .int) ∈ xTB := tw_467
abbrev w_Gr_waitedForBy : List Cond := Cond.code y_Gr_waitedForBy b_Gr_waitedForBy 4 (some .int) :: xTB
theorem k_Gr_waitedForBy : Cond.code y_Gr_waitedForBy b_Gr_waitedForBy 4 (some .int) ∈ xTB := tw_471
abbrev w_Gr_reachedFrom : List Cond := Cond.code y_Gr_reachedFrom b_Gr_reachedFrom 4 (some .int) :: xTB
theorem k_Gr_reachedFrom : Cond.code y_Gr_reachedFrom b_Gr_reachedFrom 4 (some .int) ∈ xTB := tw_463
abbrev w_Gr_nextToLookAt : List Cond := Cond.code y_Gr_nextToLookAt b_Gr_nextToLookAt 4 (some .int) :: xTB
theorem k_Gr_nextToLookAt : Cond.code y_Gr_nextToLookAt b_Gr_nextToLookAt 4 (some .int) ∈ xTB := tw_480
abbrev w_Gr_hasCycle : List Cond := Cond.code y_Gr_hasCycle b_Gr_hasCycle 5 (some .boolean) :: xTB
theorem k_Gr_hasCycle : Cond.code y_Gr_hasCycle b_Gr_hasCycle 5 (some .boolean) ∈ xTB := tw_476
abbrev w_Re_init : List Cond := Cond.code y_Re_init b_Re_init 1 (Option.none : Option Jvm.ClassFile.FieldType) :: xTB
theorem k_Re_init : Cond.code y_Re_init b_Re_init 1 (Option.none : Option Jvm.ClassFile.FieldType) ∈ xTB := tw_84
abbrev w_Re_keep : List Cond := Cond.code y_Re_keep b_Re_keep 3 (Option.none : Option Jvm.ClassFile.FieldType) :: xTB
theorem k_Re_keep : Cond.code y_Re_keep b_Re_keep 3 (Option.none : Option Jvm.ClassFile.FieldType) ∈ xTB := tw_578
abbrev w_Re_forget : List Cond := Cond.code y_Re_forget b_Re_forget 2 (Option.none : Option Jvm.ClassFile.FieldType) :: xTB
theorem k_Re_forget : Cond.code y_Re_forget b_Re_forget 2 (Option.none : Option Jvm.ClassFile.FieldType) ∈ xTB := tw_654
abbrev w_RL_init : List Cond := Cond.code y_RL_init b_RL_init 1 (Option.none : Option Jvm.ClassFile.FieldType) :: xTB
theorem k_RL_init : Cond.code y_RL_init b_RL_init 1 (Option.none : Option Jvm.ClassFile.FieldType) ∈ xTB := tw_100
abbrev w_RL_hasByte : List Cond := Cond.code y_RL_hasByte b_RL_hasByte 2 (some .boolean) :: xTB
theorem k_RL_hasByte : Cond.code y_RL_hasByte b_RL_hasByte 2 (some .boolean) ∈ xTB := tw_224
abbrev w_RL_hasRecord : List Cond := Cond.code y_RL_hasRecord b_RL_hasRecord 2 (some .boolean) :: xTB
theorem k_RL_hasRecord : Cond.code y_RL_hasRecord b_RL_hasRecord 2 (some .boolean) ∈ xTB := tw_545
abbrev w_RL_reaches : List Cond := Cond.code y_RL_reaches b_RL_reaches 3 (some .boolean) :: xTB
theorem k_RL_reaches : Cond.code y_RL_reaches b_RL_reaches 3 (some .boolean) ∈ xTB := tw_541
abbrev w_RL_append : List Cond := Cond.code y_RL_append b_RL_append 4 (Option.none : Option Jvm.ClassFile.FieldType) :: xTB
theorem k_RL_append : Cond.code y_RL_append b_RL_append 4 (Option.none : Option Jvm.ClassFile.FieldType) ∈ xTB := tw_582
abbrev w_RL_writeAnew : List Cond := Cond.code y_RL_writeAnew b_RL_writeAnew 2 (Option.none : Option Jvm.ClassFile.FieldType) :: xTB
theorem k_RL_writeAnew : Cond.code y_RL_writeAnew b_RL_writeAnew 2 (Option.none : Option Jvm.ClassFile.FieldType) ∈ xTB := tw_586
abbrev w_RL_addBytes : List Cond := Cond.code y_RL_addBytes b_RL_addBytes 2 (Option.none : Option Jvm.ClassFile.FieldType) :: xTB
theorem k_RL_addBytes : Cond.code y_RL_addBytes b_RL_addBytes 2 (Option.none : Option Jvm.ClassFile.FieldType) ∈ xTB := tw_590
abbrev w_RL_checkOf : List Cond := Cond.code y_RL_checkOf b_RL_checkOf 4 (some .int) :: xTB
theorem k_RL_checkOf : Cond.code y_RL_checkOf b_RL_checkOf 4 (some .int) ∈ xTB := tw_594
abbrev w_RL_isRight : List Cond := Cond.code y_RL_isRight b_RL_isRight 2 (some .boolean) :: xTB
theorem k_RL_isRight : Cond.code y_RL_isRight b_RL_isRight 2 (some .boolean) ∈ xTB := tw_645
abbrev w_RL_readAgain : List Cond := Cond.code y_RL_readAgain b_RL_readAgain 4 (Option.none : Option Jvm.ClassFile.FieldType) :: xTB
theorem k_RL_readAgain : Cond.code y_RL_readAgain b_RL_readAgain 4 (Option.none : Option Jvm.ClassFile.FieldType) ∈ xTB := tw_638
abbrev w_RL_takeIn : List Cond := Cond.code y_RL_takeIn b_RL_takeIn 3 (Option.none : Option Jvm.ClassFile.FieldType) :: xTB
theorem k_RL_takeIn : Cond.code y_RL_takeIn b_RL_takeIn 3 (Option.none : Option Jvm.ClassFile.FieldType) ∈ xTB := tw_650
abbrev w_La_edge : List Cond := Cond.codeWith y_La_edge b_La_edge 6 (some .int) [(0, 12, 15, 13), (0, 12, 19, 15)] :: xTB
theorem k_La_edge : Cond.codeWith y_La_edge b_La_edge 6 (some .int) [(0, 12, 15, 13), (0, 12, 19, 15)] ∈ xTB := tw_234
abbrev w_La_link : List Cond := Cond.codeWith y_La_link b_La_link 5 (some .int) [(0, 7, 10, 13), (0, 7, 14, 15)] :: xTB
theorem k_La_link : Cond.codeWith y_La_link b_La_link 5 (some .int) [(0, 7, 10, 13), (0, 7, 14, 15)] ∈ xTB := tw_340
abbrev w_La_reads : List Cond := Cond.codeWith y_La_reads b_La_reads 5 (some .int) [(0, 7, 10, 13), (0, 7, 14, 15)] :: xTB
theorem k_La_reads : Cond.codeWith y_La_reads b_La_reads 5 (some .int) [(0, 7, 10, 13), (0, 7, 14, 15)] ∈ xTB := tw_377
abbrev w_La_command : List Cond := Cond.codeWith y_La_command b_La_command 4 (some .int) [(0, 6, 9, 13), (0, 6, 12, 15)] :: xTB
theorem k_La_command : Cond.codeWith y_La_command b_La_command 4 (some .int) [(0, 6, 9, 13), (0, 6, 12, 15)] ∈ xTB := tw_386
abbrev w_La_pool : List Cond := Cond.codeWith y_La_pool b_La_pool 4 (some .int) [(0, 6, 9, 13), (0, 6, 12, 15)] :: xTB
theorem k_La_pool : Cond.codeWith y_La_pool b_La_pool 4 (some .int) [(0, 6, 9, 13), (0, 6, 12, 15)] ∈ xTB := tw_399
abbrev w_La_write : List Cond := Cond.codeWith y_La_write b_La_write 4 (some .int) [(0, 6, 9, 13), (0, 6, 12, 15)] :: xTB
theorem k_La_write : Cond.codeWith y_La_write b_La_write 4 (some .int) [(0, 6, 9, 13), (0, 6, 12, 15)] ∈ xTB := tw_407
abbrev w_La_remove : List Cond := Cond.codeWith y_La_remove b_La_remove 3 (some .int) [(0, 5, 8, 13), (0, 5, 11, 39), (0, 5, 14, 15)] :: xTB
theorem k_La_remove : Cond.codeWith y_La_remove b_La_remove 3 (some .int) [(0, 5, 8, 13), (0, 5, 11, 39), (0, 5, 14, 15)] ∈ xTB := tw_423
abbrev w_La_begin : List Cond := Cond.codeWith y_La_begin b_La_begin 6 (some .int) [(0, 12, 15, 13), (0, 12, 19, 15), (0, 12, 23, 44), (0, 12, 27, 39)] :: xTB
theorem k_La_begin : Cond.codeWith y_La_begin b_La_begin 6 (some .int) [(0, 12, 15, 13), (0, 12, 19, 15), (0, 12, 23, 44), (0, 12, 27, 39)] ∈ xTB := tw_452
abbrev w_La_finish : List Cond := Cond.codeWith y_La_finish b_La_finish 5 (some .int) [(0, 10, 13, 39)] :: xTB
theorem k_La_finish : Cond.codeWith y_La_finish b_La_finish 5 (some .int) [(0, 10, 13, 39)] ∈ xTB := tw_552
abbrev w_La_about : List Cond := Cond.codeWith y_La_about b_La_about 4 (some .int) [(0, 9, 12, 13)] :: xTB
theorem k_La_about : Cond.codeWith y_La_about b_La_about 4 (some .int) [(0, 9, 12, 13)] ∈ xTB := tw_601
abbrev w_La_file : List Cond := Cond.codeWith y_La_file b_La_file 5 (some .int) [(0, 10, 13, 13)] :: xTB
theorem k_La_file : Cond.codeWith y_La_file b_La_file 5 (some .int) [(0, 10, 13, 13)] ∈ xTB := tw_613
abbrev w_La_commandOf : List Cond := Cond.codeWith y_La_commandOf b_La_commandOf 4 (some .int) [(0, 9, 12, 13)] :: xTB
theorem k_La_commandOf : Cond.codeWith y_La_commandOf b_La_commandOf 4 (some .int) [(0, 9, 12, 13)] ∈ xTB := tw_622
abbrev w_La_cut : List Cond := Cond.codeWith y_La_cut b_La_cut 4 (some .int) [(0, 9, 12, 13), (0, 9, 15, 15)] :: xTB
theorem k_La_cut : Cond.codeWith y_La_cut b_La_cut 4 (some .int) [(0, 9, 12, 13), (0, 9, 15, 15)] ∈ xTB := tw_629
abbrev w_Ar_fill : List Cond := Cond.code y_Ar_fill b_Ar_fill 4 (Option.none : Option Jvm.ClassFile.FieldType) :: xTB
theorem k_Ar_fill : Cond.code y_Ar_fill b_Ar_fill 4 (Option.none : Option Jvm.ClassFile.FieldType) ∈ xTB := tw_104
end
section
/-! new X("..") and athrow where X's own constructor passes on by another entry of its pool (NoSuchElementException); after the library's law for the usual entry -/
def xAtoms (own : String) (ic : Nat) (X Y : String) (index : Nat) (bytes : ByteArray) (names : List String) : List Cond :=
  Bundle.throwableAtoms ++ (Bundle.throwableSAtoms ++ (Bundle.passSAtoms X Y index bytes ++ (Bundle.chainSAtoms Y names ++
  [.methodLink own ic (Bundle.initS X), .instantiable X 6, .selects X Bundle.tFill0 Bundle.tFill0, .selects X Bundle.tFill Bundle.tFill,
   .lays X Bundle.tN "cause" "Ljava/lang/Throwable;", .lays X Bundle.tN "stackTrace" Bundle.steD, .lays X Bundle.tN "suppressedExceptions" Bundle.listD, .lays X Bundle.tN "detailMessage" "Ljava/lang/String;",
   .isRef (.static Bundle.tN "UNASSIGNED_STACK" Bundle.steD), .isRef (.static Bundle.tN "SUPPRESSED_SENTINEL" Bundle.listD),
   .fieldLink Bundle.tN 198 Bundle.tN "backtrace" "Ljava/lang/Object;", .lays Bundle.tN Bundle.tN "backtrace" "Ljava/lang/Object;", .lays X Bundle.tN "backtrace" "Ljava/lang/Object;"])))
section XTN
variable {p : Program} {l : Launch} {e : Env} {R : Room} {s : State} {m : MethodId} {args : Array Value} {below : List Frame} {meth : Method} {c : Code} {H : Heap} {locs : List Loc} {cells slots : Nat} {Q : State → Prop}
set_option maxHeartbeats 1000000 in
theorem xt_ctorN {T' : State} (X : Stand p l e R s m args below meth c T' locs cells slots) (hexec : p.tables.exec = Jvm.exec) (htr : e.platform.stackTraces = false) {own cls Y : String} {names : List String} {ic index : Nat} {bytes : ByteArray}
    (hown : s.vm.findClass own = some m.cls) (hcls : Bundle.fit cls = true) (hY : Bundle.fit Y = true) (hnames : ∀ n ∈ names, Bundle.fit n = true)
    (b0 : decode bytes 0 = .ok (.aload_n 0, 1)) (b1 : decode bytes 1 = .ok (.aload_n 1, 1)) (b2 : decode bytes 2 = .ok (.invokespecial index, 3)) (b5 : decode bytes 5 = .ok (.return_, 1))
    (h : ∀ a ∈ xAtoms own ic cls Y index bytes names, a.before args s = true)
    (hlocs : ∀ x ∈ locs, ∀ cell, s.heap[x.base]? = some cell → cell.vm.isStatics = false)
    {a : Addr} {cX : ClassId} {kX : Class} (hfoundX : s.vm.findClass cls = some cX) (hkX : s.vm.classes[cX]? = some kX) (hcell : T'.heap[a]? = some (freshCell cX kX)) (hnew : s.heap.size ≤ a)
    {msg : Value} (hmsg : msg.isRef = true)
    {g : JFrame} (hg : g.method = m) (hsize : g.locals.size = c.maxLocals) (hlocked : g.locked = none) (hentered : g.entered = []) {rest : List Value} (hstack : g.stack = msg :: .ref a :: .ref a :: rest)
    (hd6 : decode c.code g.pc = .ok (.invokespecial ic, 3)) (hd9 : decode c.code (g.pc + 3) = .ok (.athrow, 1)) (hout : ∀ x ∈ c.exceptionTable.toList, covers x (g.pc + 3) = false)
    (hRframes : names.length + 4 < R.frames) (hRlocals : 2 * g.monitorRoom + ((Value.ref a :: rest).map fun v => v.category).sum + (13 * (names.length + 2) + 42) ≤ R.locals) (hlocks : meth.locks = false) :
    ∃ U : State, Steps p.tables e below (T'.setTop g) U ∧ U.status = .running ∧ Ended U below (.threw a) ∧ s.WarmedH U.vm ∧ s.sameButNew ({ U with vm := s.vm } : State) locs cells slots ∧
      ∃ ce, U.heap[a]? = some ce ∧ s.vm.findClass cls = some ce.cls ∧ ce.vm = .none := by
  have howns : e.platform.frameOwnsMonitors = true := by rw [X.admits.platform]
  have hfin : e.platform.finalization = false := by rw [X.admits.platform]
  have hpl : e.platform.magicAccessors = ({} : Platform).magicAccessors := by rw [X.admits.platform]
  have hA : ∀ x ∈ Bundle.throwableAtoms, x.before args s = true := fun x hx => h x (List.mem_append_left _ hx)
  have hB : ∀ x ∈ Bundle.throwableSAtoms, x.before args s = true := fun x hx => h x (List.mem_append_right _ (List.mem_append_left _ hx))
  have hC : ∀ x ∈ Bundle.passSAtoms cls Y index bytes, x.before args s = true := fun x hx => h x (List.mem_append_right _ (List.mem_append_right _ (List.mem_append_left _ hx)))
  have hDD : ∀ x ∈ Bundle.chainSAtoms Y names, x.before args s = true := fun x hx => h x (List.mem_append_right _ (List.mem_append_right _ (List.mem_append_right _ (List.mem_append_left _ hx))))
  have hE : ∀ x ∈ ([.methodLink own ic (Bundle.initS cls), .instantiable cls 6, .selects cls Bundle.tFill0 Bundle.tFill0, .selects cls Bundle.tFill Bundle.tFill,
      .lays cls Bundle.tN "cause" "Ljava/lang/Throwable;", .lays cls Bundle.tN "stackTrace" Bundle.steD, .lays cls Bundle.tN "suppressedExceptions" Bundle.listD, .lays cls Bundle.tN "detailMessage" "Ljava/lang/String;",
      .isRef (.static Bundle.tN "UNASSIGNED_STACK" Bundle.steD), .isRef (.static Bundle.tN "SUPPRESSED_SENTINEL" Bundle.listD),
      .fieldLink Bundle.tN 198 Bundle.tN "backtrace" "Ljava/lang/Object;", .lays Bundle.tN Bundle.tN "backtrace" "Ljava/lang/Object;", .lays cls Bundle.tN "backtrace" "Ljava/lang/Object;"] : List Cond), x.before args s = true := fun x hx => h x (List.mem_append_right _ (List.mem_append_right _ (List.mem_append_right _ (List.mem_append_right _ hx))))
  have a' : ∀ (i : Nat) (w : Cond), ([.methodLink own ic (Bundle.initS cls), .instantiable cls 6, .selects cls Bundle.tFill0 Bundle.tFill0, .selects cls Bundle.tFill Bundle.tFill,
      .lays cls Bundle.tN "cause" "Ljava/lang/Throwable;", .lays cls Bundle.tN "stackTrace" Bundle.steD, .lays cls Bundle.tN "suppressedExceptions" Bundle.listD, .lays cls Bundle.tN "detailMessage" "Ljava/lang/String;",
      .isRef (.static Bundle.tN "UNASSIGNED_STACK" Bundle.steD), .isRef (.static Bundle.tN "SUPPRESSED_SENTINEL" Bundle.listD),
      .fieldLink Bundle.tN 198 Bundle.tN "backtrace" "Ljava/lang/Object;", .lays Bundle.tN Bundle.tN "backtrace" "Ljava/lang/Object;", .lays cls Bundle.tN "backtrace" "Ljava/lang/Object;"] : List Cond)[i]? = some w → w.before args s = true := fun i w hw => hE w (List.mem_of_getElem? hw)
  obtain ⟨T, Z0, L, -, YT⟩ := ThrowableC.of_atoms (args := args) howns hfin hpl hA
  obtain ⟨Z, M, LZ, LM, hnZ⟩ := Init0T.ofS_atoms (args := args) hpl L YT hB
  obtain ⟨P2, Ps, hlen, L2, hL, hP2m, hlink2, hlink⟩ := Bundle.chainS (args := args) hpl hnZ names Y hY hnames hDD
  obtain ⟨P1, L1, hP1m, hs1⟩ := PassC.ofS_atoms (args := args) (s := s) hpl (X := cls) (Y := Y) (Bundle.fit_spec hcls).1 (Bundle.fit_spec hY).2 b0 b1 b2 b5 hC
  have e12 : P1.sup = P2.m := Option.some.inj (hs1.symm.trans hP2m)
  have hfound : s.vm.findClass cls = some P1.m.cls := findClass_of_methodNamed hP1m
  cases Option.some.inj (hfoundX.symm.trans hfound)
  obtain ⟨c1, kX', hc1, hk, hord, -, -, hn6⟩ := Cond.instantiable_spec (a' 1 _ rfl)
  cases Option.some.inj (hc1.symm.trans hfound)
  cases Option.some.inj (hkX.symm.trans hk)
  have hsel0 : selectMethod e.platform s.vm P1.m.cls T.fill0 = .method T.fill0 := by
    obtain ⟨c2, r2, m2, q1, q2, q3, q4, -⟩ := Cond.selects_spec (a' 2 _ rfl)
    cases Option.some.inj (q1.symm.trans hfound)
    cases Option.some.inj (q2.symm.trans (State.methodFound?_of_named YT.fill0 (by decide)))
    cases Option.some.inj (q3.symm.trans YT.fill0)
    rw [Launch.admits_selectMethod X.admits]; exact q4
  have hselF : selectMethod e.platform s.vm P1.m.cls T.fill = .method T.fill := by
    obtain ⟨c2, r2, m2, q1, q2, q3, q4, -⟩ := Cond.selects_spec (a' 3 _ rfl)
    cases Option.some.inj (q1.symm.trans hfound)
    cases Option.some.inj (q2.symm.trans (State.methodFound?_of_named YT.fill (by decide)))
    cases Option.some.inj (q3.symm.trans YT.fill)
    rw [Launch.admits_selectMethod X.admits]; exact q4
  obtain ⟨cellS0, hcS0, hiss⟩ := YT.statics
  obtain ⟨u0, hu0⟩ := Cond.staticRefV YT.unassigned L.unassignedStatic L.statics hcS0 hiss (a' 8 _ rfl)
  obtain ⟨sen, hsen⟩ := Cond.staticRefV YT.sentinel L.sentinelStatic L.statics hcS0 hiss (a' 9 _ rfl)
  obtain ⟨ci198, i198, fB, hk198, hg198, ha198, hsB, -, hnB, htB, hffB⟩ := Cond.ownField (t := .object "java/lang/Object") YT.found L.cls (by decide +kernel) (a' 10 _ rfl) (a' 11 _ rfl) e.platform hpl
  obtain ⟨cellS, hcS', heS, -, hkeep⟩ := X.same.2.2.2.2.2 T.aS cellS0 hcS0
  have hcellS : T'.heap[T.aS]? = some cellS := hcS'
  have hout' : ∀ i, (⟨T.aS, i⟩ : Loc) ∉ locs := fun i hmem => by
    have := hlocs _ hmem cellS0 hcS0
    rw [hiss] at this
    cases this
  have hknownS : cellS.vm ≠ .unknown := by
    rw [heS]
    intro hu
    rw [show cellS0.vm = .unknown from hu] at hiss
    cases hiss
  have hneS : T.aS ≠ a := Nat.ne_of_lt (Nat.lt_of_lt_of_le (Array.getElem?_eq_some_iff.mp hcS0).1 hnew)
  obtain ⟨iM, hffM⟩ := YT.msg
  obtain ⟨tyC, dC, hdC, hdnC⟩ := Cond.laysAt hfound hk YT.cause (a' 4 _ rfl)
  obtain ⟨tyS, dS, hdS, hdnS⟩ := Cond.laysAt hfound hk YT.stack (a' 5 _ rfl)
  obtain ⟨tyP, dP, hdP, hdnP⟩ := Cond.laysAt hfound hk YT.supp (a' 6 _ rfl)
  obtain ⟨tyM, dM, hdM, hdnM⟩ := Cond.laysAt hfound hk hffM (a' 7 _ rfl)
  obtain ⟨tyB, dB, hdB, hdnB⟩ := Cond.laysAt hfound hk hffB (a' 12 _ rfl)
  have bC := Cond.laysApart hdB hdC hdnB hdnC (by rw [hnB, YT.causeName]; decide)
  have bS := Cond.laysApart hdB hdS hdnB hdnS (by rw [hnB, YT.stackName]; decide)
  have bP := Cond.laysApart hdB hdP hdnB hdnP (by rw [hnB, YT.suppName]; decide)
  have hskip : SkipFacts T e.platform s (fun u => u) u0 ((preparedCellV T.toThrowableT (freshCell P1.m.cls kX) a u0 sen).withEntry T'.cur) :=
    ⟨{ ci198 := ci198, i198 := i198, fBack := fB }, ⟨hk198, hg198, ha198, hsB⟩, by
      have := fresh_default (c := P1.m.cls) tyB
      rw [htB] at this
      simpa [preparedCellV, Cell.setSlot, Cell.withEntry, Array.getElem?_setIfInBounds, bC, bS, bP, bC.symm, bS.symm, bP.symm, defaultValue] using this, fun _ _ => rfl⟩
  have hinsC : (Cond.instanceMethod (Bundle.initS cls)).before args s = true := hC _ (List.mem_of_getElem? (i := 0) rfl)
  have hcodC : (Cond.code (Bundle.initS cls) bytes 2 none).before args s = true := hC _ (List.mem_of_getElem? (i := 1) rfl)
  obtain ⟨tm, methC, cdC, kC, vm₁, hnC, -, -, -, -, -, -, -, hW₁, st1⟩ := Steps.initColdS (tb := p.tables) (e := e) (below := below) (s := s) (U := T') X.here hexec X.warmed hpl hown (t := Bundle.initS cls) rfl rfl (Bundle.fit_spec hcls).2
    (a' 0 _ rfl) hinsC (bytes := bytes) (maxL := 2) hcodC (f := g) hg (a := a) (msg := msg) (rest := .ref a :: rest) hstack hd6
  cases Option.some.inj (hnC.symm.trans hP1m)
  have X₁ := X.noted hW₁
  obtain ⟨vm₂, X₂, st2⟩ := X₁.ctorMessageOffV hexec (g := { g with stack := .ref a :: rest }) hg hsize T L Z LZ M LM (P1 :: P2 :: Ps)
    (fun P hP => by
      rcases List.mem_cons.mp hP with rfl | hP
      · exact L1
      · rcases List.mem_cons.mp hP with rfl | hP
        · exact L2
        · exact hL P hP) ⟨e12, hlink2, hlink⟩ (u0 := u0) (sen := sen) (self := a) hmsg (cell := freshCell P1.m.cls kX) (cellS := cellS)
    hcell (fun _ => by simp) (by simp) rfl rfl hsel0 hselF hcellS hneS hknownS (by rw [hkeep _ (hout' _)]; exact hu0) (by rw [hkeep _ (hout' _)]; exact hsen)
    (Takes.of_laid hk hord tyC (by rw [YT.causeType]; rfl)) (Takes.of_laid hk hord tyS (by rw [YT.stackType]; exact fits_refV_array _ u0)) (Takes.of_laid hk hord tyP (by rw [YT.suppType]; exact fits_refV_object _ sen))
    (Takes.of_laid hk hord tyM (by rw [YT.msgType]; exact fits_refV_object _ ⟨msg, hmsg⟩)) YT.objLocals hskip htr [] hd6
    (by simp only [List.length_cons, hlen]; omega) (by simp only [List.length_cons, hlen]; exact hRlocals)
  obtain ⟨hwalk, hrun, hended, hWU, hsame⟩ := X₂.athrowLeaves hexec (g := { g with stack := .ref a :: rest, pc := g.pc + 3 }) hg hlocked hentered hout (a := a) (rest := rest) rfl hd9
  have hlt : a < ((T'.setVm vm₁).setVm vm₂).heap.size := (Array.getElem?_eq_some_iff.mp hcell).1
  have hU := heapAt_setCell_self (s := (T'.setVm vm₁).setVm vm₂) (plainBareV T.toThrowableT (freshCell P1.m.cls kX) a u0 sen msg) hlt
  refine ⟨_, st1 _ (fun acts => ?_), hrun, hended, hWU, hsame.weaken (fun y hy hlt' => ?_) (Nat.le_refl _) (Nat.le_refl _), _, hU, hfound, rfl⟩
  · rw [doInvoke_state]
    exact st2 _ hwalk
  · rcases List.mem_append.mp hy with h1 | h1
    · exact h1
    · exfalso
      have hb : y.base = a := by
        simp only [List.mem_cons, List.not_mem_nil, or_false] at h1
        rcases h1 with rfl | rfl | rfl | rfl | rfl <;> rfl
      rw [hb] at hlt'
      exact Nat.not_lt.mpr hnew hlt'
variable {cc : ByteArray} {pc : Nat} {ls : Array Slot} {rest : List Value} {A : Nat → Prop}
theorem xt_throwN {mc ms : Nat} (hexec : p.tables.exec = Jvm.exec) (hb : c.code = cc) (hml : c.maxLocals = ls.size) (hfl : l.flags = pinnedFlags ++ [noTraceFlag]) (hlocks : meth.locks = false) (hemp : c.exceptionTable.isEmpty = true)
    {own X Y : String} {names : List String} {ia ib ic q index : Nat} {bytes : ByteArray} {tx : String} (hown : s.vm.findClass own = some m.cls)
    (hcl : (Cond.classLink own ia X).before args s = true) (hinst : (Cond.instantiable X 6).before args s = true) (hini : (Cond.initialized X).before args s = true)
    (hX : Bundle.fit X = true) (hY : Bundle.fit Y = true) (hN : ∀ n ∈ names, Bundle.fit n = true)
    (b0 : decode bytes 0 = .ok (.aload_n 0, 1)) (b1 : decode bytes 1 = .ok (.aload_n 1, 1)) (b2 : decode bytes 2 = .ok (.invokespecial index, 3)) (b5 : decode bytes 5 = .ok (.return_, 1))
    (hat : ∀ a ∈ xAtoms own ic X Y index bytes names, a.before args s = true) (hZ : vk_R own ib tx q s)
    (hS : va_S A s.heap H locs) (hAs : ∀ q, A q → ∀ cell, s.heap[q]? = some cell → cell.vm.isStatics = false)
    (hc : cells + 1 ≤ R.cells) (hsl : slots + 6 ≤ R.slots) (hmc : cells + 1 ≤ mc) (hms : slots + 6 ≤ ms)
    (hRf : names.length + 4 < R.frames) (hRl : ((rest.map fun v => v.category).sum + 1) + (13 * (names.length + 2) + 42) ≤ R.locals)
    (d0 : decode cc pc = .ok (.new ia, 3)) (d3 : decode cc (pc + 3) = .ok (.dup, 1)) (d4 : decode cc (pc + 3 + 1) = .ok (.ldc ib, 2)) (d6 : decode cc (pc + 3 + 1 + 2) = .ok (.invokespecial ic, 3)) (d9 : decode cc (pc + 3 + 1 + 2 + 3) = .ok (.athrow, 1)) :
    W p l e R s m args below meth c H locs cells slots (xt_Q below X s mc ms A) (F0 m pc ls rest) := by
  obtain ⟨cX, kX0, hfX, hkX0, -⟩ := Cond.instantiable_spec hinst
  refine W.newcK (g := F0 m pc ls rest) hexec hb hown hcl hinst hini rfl d0 hc hsl hfX rfl fun H1 kC hkC e1 z1 o1 => ?_
  refine lv_dup hexec hb d3 rfl ?_
  refine va_ldcS hexec hb hown hZ d4 ?_
  intro T hT X0
  have hout : ∀ x ∈ c.exceptionTable.toList, covers x (pc + 3 + 1 + 2 + 3) = false := by
    intro x hx
    have h0 : c.exceptionTable.size = 0 := by simpa [Array.isEmpty] using hemp
    have h1 : c.exceptionTable.toList = [] := List.eq_nil_of_length_eq_zero (by simpa using h0)
    rw [h1] at hx
    cases hx
  obtain ⟨U, st, hrun, hend, hW, hsame, ce, hce, hoc, hov⟩ := xt_ctorN X0 hexec (Launch.traces_off hfl X0.admits) hown hX hY hN b0 b1 b2 b5 hat (fun x hx cell hcell => hAs _ (hS.2.2 x hx) cell hcell) hfX hkC (a := H.size) (by rw [hT]; exact e1) hS.1 (msg := .ref q) rfl
    (g := F0 m (pc + 3 + 1 + 2) ls (.ref q :: .ref H.size :: .ref H.size :: rest)) rfl hml.symm rfl rfl (rest := rest) rfl (by rw [hb]; exact d6) (by rw [hb]; exact d9) hout hRf (by
      show 2 * 0 + (1 + (rest.map fun v => v.category).sum) + _ ≤ _
      omega) hlocks
  exact ⟨U, st, .threw H.size, hrun, hend, ⟨H.size, ce, rfl, hS.1, hce, by rw [hov]; rfl, hoc⟩, locs, ⟨hW, hsame.mono hmc hms⟩, hS.2.2⟩
end XTN
end
section
theorem d_FB_isIn_0 : decode b_FB_isIn 0 = .ok (.iload_n 0, 1) := by decide +kernel
theorem d_FB_isIn_1 : decode b_FB_isIn 1 = .ok (.iload_n 1, 1) := by decide +kernel
theorem d_FB_isIn_2 : decode b_FB_isIn 2 = .ok (.if_icmp .lt (12), 3) := by decide +kernel
theorem d_FB_isIn_5 : decode b_FB_isIn 5 = .ok (.iload_n 0, 1) := by decide +kernel
theorem d_FB_isIn_6 : decode b_FB_isIn 6 = .ok (.iload_n 2, 1) := by decide +kernel
theorem d_FB_isIn_7 : decode b_FB_isIn 7 = .ok (.if_icmp .gt (7), 3) := by decide +kernel
theorem d_FB_isIn_10 : decode b_FB_isIn 10 = .ok (.iconst (1), 1) := by decide +kernel
theorem d_FB_isIn_11 : decode b_FB_isIn 11 = .ok (.goto (4), 3) := by decide +kernel
theorem d_FB_isIn_14 : decode b_FB_isIn 14 = .ok (.iconst (0), 1) := by decide +kernel
theorem d_FB_isIn_15 : decode b_FB_isIn 15 = .ok (.ireturn, 1) := by decide +kernel
set_option maxRecDepth 20000 in
set_option maxHeartbeats 4000000 in
theorem c_FB_isIn (l : Launch) (D : va_G) (x : Int32) (lo : Int32) (hi : Int32) (sz : Nat)  : xMi l y_FB_isIn w_FB_isIn { frames := 0, cells := 0, slots := 0, locals := 0 } D cl [.int x, .int lo, .int hi] sz [] [] (fun (r : Int32) (_ : Unit) => r = xIn x lo hi) (fun _ => []) (fun _ => []) := by
  refine xMi_of (by decide +kernel) rfl (Nat.le_of_ble_eq_true rfl) ?_
  intro p e s m args below meth c ls A B hAe hA hsz hP hK hD hS hAm hTh hAs hl
  obtain ⟨⟨hx, hb, hml, hown, hts⟩, hret, hlk, hnm, hemp⟩ := id B
  have hl : lv_has ls 3 [(0, .int x), (1, .int lo), (2, .int hi)] := hl
  refine lv_iload_n hx hb d_FB_isIn_0 rfl (lv_at hl 0 rfl) ?_
  refine lv_iload_n hx hb d_FB_isIn_1 rfl (lv_at hl 1 rfl) ?_
  refine lv_icmp_lt (tgt := 14) hx hb d_FB_isIn_2 (by decide) (fun b2 => ?_) (fun b2 => ?_)
  · refine lv_iconst (v := 0) hx hb d_FB_isIn_14 (by decide) ?_
    exact xrz () B d_FB_isIn_15 (rfl) ((by first | exact xIn_0a b2 | exact xIn_0b b7)) (hP.sub (ws' := []) [] rfl) (hK.sub (tys' := []) [] rfl) (hD.sub (ws' := []) [] (by decide) rfl) hS (Nat.le_of_ble_eq_true rfl) (Nat.le_of_ble_eq_true rfl)
  · refine lv_iload_n hx hb d_FB_isIn_5 rfl (lv_at hl 0 rfl) ?_
    refine lv_iload_n hx hb d_FB_isIn_6 rfl (lv_at hl 2 rfl) ?_
    refine lv_icmp_gt (tgt := 14) hx hb d_FB_isIn_7 (by decide) (fun b7 => ?_) (fun b7 => ?_)
    · refine lv_iconst (v := 0) hx hb d_FB_isIn_14 (by decide) ?_
      exact xrz () B d_FB_isIn_15 (rfl) ((by first | exact xIn_0a b2 | exact xIn_0b b7)) (hP.sub (ws' := []) [] rfl) (hK.sub (tys' := []) [] rfl) (hD.sub (ws' := []) [] (by decide) rfl) hS (Nat.le_of_ble_eq_true rfl) (Nat.le_of_ble_eq_true rfl)
    · refine lv_iconst (v := 1) hx hb d_FB_isIn_10 (by decide) ?_
      refine lv_goto (tgt := 15) hx hb d_FB_isIn_11 (by decide) ?_
      exact xrz () B d_FB_isIn_15 (rfl) (xIn_1 b2 b7) (hP.sub (ws' := []) [] rfl) (hK.sub (tys' := []) [] rfl) (hD.sub (ws' := []) [] (by decide) rfl) hS (Nat.le_of_ble_eq_true rfl) (Nat.le_of_ble_eq_true rfl)
theorem d_FB_isFile_0 : decode b_FB_isFile 0 = .ok (.iload_n 0, 1) := by decide +kernel
theorem d_FB_isFile_1 : decode b_FB_isFile 1 = .ok (.iconst (0), 1) := by decide +kernel
theorem d_FB_isFile_2 : decode b_FB_isFile 2 = .ok (.bipush (23), 2) := by decide +kernel
theorem d_FB_isFile_4 : decode b_FB_isFile 4 = .ok (.invokestatic 61, 3) := by decide +kernel
theorem d_FB_isFile_7 : decode b_FB_isFile 7 = .ok (.ireturn, 1) := by decide +kernel
set_option maxRecDepth 20000 in
set_option maxHeartbeats 4000000 in
theorem c_FB_isFile (l : Launch) (D : va_G) (x : Int32) (sz : Nat)  : xMi l y_FB_isFile w_FB_isFile { frames := 1, cells := 0, slots := 0, locals := 22 } D cl [.int x] sz [] [] (fun (r : Int32) (_ : Unit) => r = xIn x 0 23) (fun _ => []) (fun _ => []) := by
  refine xMi_of (by decide +kernel) rfl (Nat.le_of_ble_eq_true rfl) ?_
  intro p e s m args below meth c ls A B hAe hA hsz hP hK hD hS hAm hTh hAs hl
  obtain ⟨⟨hx, hb, hml, hown, hts⟩, hret, hlk, hnm, hemp⟩ := id B
  have hl : lv_has ls 1 [(0, .int x)] := hl
  refine lv_iload_n hx hb d_FB_isFile_0 rfl (lv_at hl 0 rfl) ?_
  refine lv_iconst (v := 0) hx hb d_FB_isFile_1 (by decide) ?_
  refine lv_bipush (v := 23) hx hb d_FB_isFile_2 (by decide) ?_
  have hPc := hP.sub (ws' := []) [] rfl
  have hDc := hD.sub (ws' := []) [] (by decide) rfl
  have hKc := hK.sub (tys' := []) [] rfl
  refine xgi (wsC := []) (wr := []) (va_runS (As := [.int x, .int 0, .int 23]) (rest := []) ⟨hx, hb, hml, hown, hts⟩ (c_FB_isIn l  D x 0 23 _ ) ⟨(callB_of 3 hts (x_good k_FB_isIn) rfl rfl rfl (hts _ (List.mem_cons_of_mem _ tw_1)) (hts _ (List.mem_cons_of_mem _ tw_245)) (by decide +kernel) ⟨Nat.le_of_ble_eq_true rfl, Nat.le_of_ble_eq_true rfl⟩), (hts _ (List.mem_cons_of_mem _ tw_226))⟩ (xP_S hPc hKc hDc hAm hTh hAs hS) rfl rfl hl.1 rfl (lv_room (Nat.le_of_ble_eq_true rfl)) d_FB_isFile_4 ⟨Nat.le_of_ble_eq_true rfl, Nat.le_of_ble_eq_true rfl⟩) hP hD hK hS hA [] [] rfl rfl (by decide) (by decide) (fun r1 _ H locs er1 hP hD hK hS => ?_)
  have er1 : r1 = xIn x 0 23 := er1
  subst er1
  have hK : va_K D cl [] s := hK
  have hP : va_P D cl [] H := hP
  have hD : va_D A [] := hD
  exact xrz () B d_FB_isFile_7 (xIn_nar _ _ _) (rfl) (hP.sub (ws' := []) [] rfl) (hK.sub (tys' := []) [] rfl) (hD.sub (ws' := []) [] (by decide) rfl) hS (Nat.le_of_ble_eq_true rfl) (Nat.le_of_ble_eq_true rfl)
theorem d_FB_isCommand_0 : decode b_FB_isCommand 0 = .ok (.iload_n 0, 1) := by decide +kernel
theorem d_FB_isCommand_1 : decode b_FB_isCommand 1 = .ok (.iconst (0), 1) := by decide +kernel
theorem d_FB_isCommand_2 : decode b_FB_isCommand 2 = .ok (.ldc 127, 2) := by decide +kernel
theorem d_FB_isCommand_4 : decode b_FB_isCommand 4 = .ok (.invokestatic 61, 3) := by decide +kernel
theorem d_FB_isCommand_7 : decode b_FB_isCommand 7 = .ok (.ireturn, 1) := by decide +kernel
set_option maxRecDepth 20000 in
set_option maxHeartbeats 4000000 in
theorem c_FB_isCommand (l : Launch) (D : va_G) (x : Int32) (sz : Nat)  : xMi l y_FB_isCommand w_FB_isCommand { frames := 1, cells := 0, slots := 0, locals := 22 } D cl [.int x] sz [] [] (fun (r : Int32) (_ : Unit) => r = xIn x 0 65535) (fun _ => []) (fun _ => []) := by
  refine xMi_of (by decide +kernel) rfl (Nat.le_of_ble_eq_true rfl) ?_
  intro p e s m args below meth c ls A B hAe hA hsz hP hK hD hS hAm hTh hAs hl
  obtain ⟨⟨hx, hb, hml, hown, hts⟩, hret, hlk, hnm, hemp⟩ := id B
  have hl : lv_has ls 1 [(0, .int x)] := hl
  refine lv_iload_n hx hb d_FB_isCommand_0 rfl (lv_at hl 0 rfl) ?_
  refine lv_iconst (v := 0) hx hb d_FB_isCommand_1 (by decide) ?_
  refine lv_ldc (v := 65535) hx hb hown (hts _ (List.mem_cons_of_mem _ tw_244)) d_FB_isCommand_2 ?_
  have hPc := hP.sub (ws' := []) [] rfl
  have hDc := hD.sub (ws' := []) [] (by decide) rfl
  have hKc := hK.sub (tys' := []) [] rfl
  refine xgi (wsC := []) (wr := []) (va_runS (As := [.int x, .int 0, .int 65535]) (rest := []) ⟨hx, hb, hml, hown, hts⟩ (c_FB_isIn l  D x 0 65535 _ ) ⟨(callB_of 3 hts (x_good k_FB_isIn) rfl rfl rfl (hts _ (List.mem_cons_of_mem _ tw_1)) (hts _ (List.mem_cons_of_mem _ tw_245)) (by decide +kernel) ⟨Nat.le_of_ble_eq_true rfl, Nat.le_of_ble_eq_true rfl⟩), (hts _ (List.mem_cons_of_mem _ tw_226))⟩ (xP_S hPc hKc hDc hAm hTh hAs hS) rfl rfl hl.1 rfl (lv_room (Nat.le_of_ble_eq_true rfl)) d_FB_isCommand_4 ⟨Nat.le_of_ble_eq_true rfl, Nat.le_of_ble_eq_true rfl⟩) hP hD hK hS hA [] [] rfl rfl (by decide) (by decide) (fun r1 _ H locs er1 hP hD hK hS => ?_)
  have er1 : r1 = xIn x 0 65535 := er1
  subst er1
  have hK : va_K D cl [] s := hK
  have hP : va_P D cl [] H := hP
  have hD : va_D A [] := hD
  exact xrz () B d_FB_isCommand_7 (xIn_nar _ _ _) (rfl) (hP.sub (ws' := []) [] rfl) (hK.sub (tys' := []) [] rfl) (hD.sub (ws' := []) [] (by decide) rfl) hS (Nat.le_of_ble_eq_true rfl) (Nat.le_of_ble_eq_true rfl)
end
section
/-! Arrays.fill(int[], int) -/
theorem xarr {D : va_G} {cl : List vw_C} {ws : va_W} {H : Heap} {q a n : Nat} {cA : ClassId} {f g : Nat → Int32} (hP : va_P D cl ws H) (hq : ws[q]? = some (a, .inl (cA, n, .inl f))) (h : ∀ j, j < n → f j = g j) : va_P D cl (ws.set q (a, .inl (cA, n, .inl g))) H := by
  have e : vp_cell cA (n, .inl f) = vp_cell cA (n, .inl g) := by
    rw [vp_cell_i, vp_cell_i]
    unfold arrV
    congr 1
    apply Array.ext_getElem?
    intro j
    by_cases hj : j < n
    · simp [hj, h j hj]
    · simp [hj]
  have hl := (List.getElem?_eq_some_iff.mp hq).1
  intro k x hk
  by_cases hkq : k = q
  · subst hkq
    rw [List.getElem?_set_self hl] at hk
    cases hk
    have h1 : H[a]? = some (vp_cell cA (n, .inl f)) := hP k _ hq
    rw [e] at h1
    exact h1
  · rw [List.getElem?_set_ne (Ne.symm hkq)] at hk
    exact hP k x hk
theorem d_Ar_fill_0 : decode b_Ar_fill 0 = .ok (.iconst 0, 1) := by decide +kernel
theorem d_Ar_fill_1 : decode b_Ar_fill 1 = .ok (.istore_n 2, 1) := by decide +kernel
theorem d_Ar_fill_2 : decode b_Ar_fill 2 = .ok (.aload_n 0, 1) := by decide +kernel
theorem d_Ar_fill_3 : decode b_Ar_fill 3 = .ok (.arraylength, 1) := by decide +kernel
theorem d_Ar_fill_4 : decode b_Ar_fill 4 = .ok (.istore_n 3, 1) := by decide +kernel
theorem d_Ar_fill_5 : decode b_Ar_fill 5 = .ok (.iload_n 2, 1) := by decide +kernel
theorem d_Ar_fill_6 : decode b_Ar_fill 6 = .ok (.iload_n 3, 1) := by decide +kernel
theorem d_Ar_fill_7 : decode b_Ar_fill 7 = .ok (.if_icmp .ge 13, 3) := by decide +kernel
theorem d_Ar_fill_10 : decode b_Ar_fill 10 = .ok (.aload_n 0, 1) := by decide +kernel
theorem d_Ar_fill_11 : decode b_Ar_fill 11 = .ok (.iload_n 2, 1) := by decide +kernel
theorem d_Ar_fill_12 : decode b_Ar_fill 12 = .ok (.iload_n 1, 1) := by decide +kernel
theorem d_Ar_fill_13 : decode b_Ar_fill 13 = .ok (.iastore, 1) := by decide +kernel
theorem d_Ar_fill_14 : decode b_Ar_fill 14 = .ok (.iinc 2 1, 3) := by decide +kernel
theorem d_Ar_fill_17 : decode b_Ar_fill 17 = .ok (.goto (-12), 3) := by decide +kernel
theorem d_Ar_fill_20 : decode b_Ar_fill 20 = .ok (.return_, 1) := by decide +kernel
set_option maxRecDepth 20000 in
set_option maxHeartbeats 4000000 in
theorem c_Ar_fill (l : Launch) (D : va_G) (a : Nat) (cA : ClassId) (n : Nat) (f : Nat → Int32) (v : Int32) (sz : Nat) (hn : n < 2 ^ 31) : xMv l y_Ar_fill w_Ar_fill { frames := 0, cells := 0, slots := 0, locals := 0 } D cl [.ref a, .int v] sz [(cA, .int)] [(a, .inl (cA, n, .inl f))] (fun (_ : Unit) => True) (fun _ => [(a, .inl (cA, n, .inl (fun _ => v)))]) (fun _ => []) := by
  refine xMv_of (by decide +kernel) rfl (Nat.le_of_ble_eq_true rfl) ?_
  intro p e s m args below meth c ls A B hAe hA hsz hP hK hD hS hAm hTh hAs hl
  obtain ⟨⟨hx, hb, hml, hown, hts⟩, hret, hlk, hnm, hemp⟩ := id B
  have hl : lv_has ls 4 [(0, .ref a), (1, .int v)] := hl
  have loop : ∀ (d k : Nat), k + d = n → ∀ (ls : Array Slot) (H : Heap) (locs : List Loc) (g : Nat → Int32), (∀ j, j < k → g j = v) → lv_has ls 4 [(2, .int (nI k)), (3, .int (nI n)), (0, .ref a), (1, .int v)] → va_P D cl [(a, .inl (cA, n, .inl g))] H → va_D A [(a, .inl (cA, n, .inl g))] → va_S A s.heap H locs →
      W p l e { frames := 0, cells := 0, slots := 0, locals := 0 } s m args below meth c H locs 0 0 (MQ below (va_Qv (fun (_ : Unit) => True) (xBh D cl A (fun _ => [(a, .inl (cA, n, .inl (fun _ => v)))]) (fun _ => [])) A) args s 0 0 A) (F0 m 5 ls []) := by
    intro d
    induction d with
    | zero =>
      intro k hk ls H locs g hg hl hP hD hS
      have hk : k = n := hk
      subst hk
      refine lv_iload_n hx hb d_Ar_fill_5 rfl (lv_at hl 0 rfl) ?_
      refine lv_iload_n hx hb d_Ar_fill_6 rfl (lv_at hl 1 rfl) ?_
      refine lv_icmp_ge (tgt := 20) hx hb d_Ar_fill_7 (by decide) (fun b7 => ?_) (fun b7 => absurd (nI_le (Nat.le_refl _) hn) b7)
      have hP2 : va_P D cl [(a, .inl (cA, k, .inl (fun _ => v)))] H := xarr (q := 0) hP rfl hg
      have hD2 : va_D A [(a, .inl (cA, k, .inl (fun _ => v)))] := va_D.set (p := 0) hD rfl
      exact xrv () B d_Ar_fill_20 trivial hP2 (hK.sub (tys' := []) [] rfl) hD2 hS (Nat.le_refl _) (Nat.le_refl _)
    | succ d ih =>
      intro k hk ls H locs g hg hl hP hD hS
      have hkn : k < n := by omega
      refine lv_iload_n hx hb d_Ar_fill_5 rfl (lv_at hl 0 rfl) ?_
      refine lv_iload_n hx hb d_Ar_fill_6 rfl (lv_at hl 1 rfl) ?_
      refine lv_icmp_ge (tgt := 20) hx hb d_Ar_fill_7 (by decide) (fun b7 => absurd b7 (nI_ge hkn hn)) (fun b7 => ?_)
      refine lv_aload_n hx hb d_Ar_fill_10 rfl (lv_at hl 2 rfl) ?_
      refine lv_iload_n hx hb d_Ar_fill_11 rfl (lv_at hl 0 rfl) ?_
      refine lv_iload_n hx hb d_Ar_fill_12 rfl (lv_at hl 3 rfl) ?_
      refine va_iast hx hb hK hP hD hS 0 0 rfl rfl (vp_in_nI hkn hn) d_Ar_fill_13 (fun H locs hP hD hS => ?_)
      refine lv_iinc (k := 0) (v := nI (k + 1)) hx hb d_Ar_fill_14 hl rfl (nI_1 k) (by decide) rfl (fun ls hl => ?_)
      have hl : lv_has ls 4 [(2, .int (nI (k + 1))), (3, .int (nI n)), (0, .ref a), (1, .int v)] := hl
      refine lv_goto (tgt := 5) hx hb d_Ar_fill_17 (by decide) ?_
      refine ih (k + 1) (by omega) ls H locs (upd g (nI k).toNatClampNeg v) (fun j hj => ?_) hl hP hD hS
      rw [nI_clamp (Nat.lt_trans hkn hn)]
      by_cases hjk : j = k
      · subst hjk; exact pk_us
      · rw [pk_un hjk]; exact hg j (by omega)
  refine lv_iconst (v := 0) hx hb d_Ar_fill_0 (by decide) ?_
  refine lv_istore_n hx hb d_Ar_fill_1 rfl hl (by decide) rfl (fun ls hl => ?_)
  have hl : lv_has ls 4 [(2, .int 0), (0, .ref a), (1, .int v)] := hl
  refine lv_aload_n hx hb d_Ar_fill_2 rfl (lv_at hl 1 rfl) ?_
  refine va_alen (v := nI n) hx hb hK hP 0 0 rfl rfl rfl d_Ar_fill_3 ?_
  refine lv_istore_n hx hb d_Ar_fill_4 rfl hl (by decide) rfl (fun ls hl => ?_)
  have hl : lv_has ls 4 [(3, .int (nI n)), (2, .int 0), (0, .ref a), (1, .int v)] := hl
  have hl2 : lv_has ls 4 [(2, .int (nI 0)), (3, .int (nI n)), (0, .ref a), (1, .int v)] := lv_sub hl [1, 0, 2, 3] rfl
  exact loop n 0 (Nat.zero_add n) ls s.heap [] f (fun j hj => absurd hj (Nat.not_lt_zero j)) hl2 hP hD hS
end
section
/-! new int[4][12] -/
def xro (comp : ClassId) : Cell := { cls := comp, slots := Array.replicate 12 (.int 0) }
def xou (c : ClassId) (a : Addr) : Nat → Cell
  | 0 => { cls := c, slots := Array.replicate 4 .null }
  | i + 1 => (xou c a i).setSlot i (.ref (a + 1 + i))
def xms (c comp : ClassId) (S : State) : Nat → State
  | 0 => S.pushCell (xou c S.heap.size 0)
  | i + 1 => ((xms c comp S i).pushCell (xro comp)).setCell S.heap.size (xou c S.heap.size (i + 1))
theorem xou_facts (c : ClassId) (a : Addr) : ∀ i, (xou c a i).cls = c ∧ (xou c a i).vm = .none ∧ (xou c a i).slots.size = 4
  | 0 => ⟨rfl, rfl, by simp [xou]⟩
  | i + 1 => by
    obtain ⟨h1, h2, h3⟩ := xou_facts c a i
    exact ⟨h1, h2, by simp [xou, Cell.setSlot, h3]⟩
theorem xms_facts (c comp : ClassId) (S : State) : ∀ i, (xms c comp S i).heap.size = S.heap.size + 1 + i ∧ (xms c comp S i).heap[S.heap.size]? = some (xou c S.heap.size i) ∧ (xms c comp S i).vm = S.vm ∧ (xms c comp S i).slotsUsed = S.slotsUsed + 4 + 12 * i ∧ (∀ q, q < S.heap.size → (xms c comp S i).heap[q]? = S.heap[q]?)
  | 0 => by
    refine ⟨by simp [xms, State.pushCell], by simp [xms, State.pushCell], rfl, by simp [xms, State.pushCell, xou], fun q hq => ?_⟩
    simp only [xms, State.pushCell]
    rw [Array.getElem?_push, if_neg (Nat.ne_of_lt hq)]
  | i + 1 => by
    obtain ⟨h1, h2, h3, h4, h5⟩ := xms_facts c comp S i
    refine ⟨by simp [xms, State.pushCell, State.setCell, h1]; omega, ?_, by simpa [xms, State.pushCell, State.setCell] using h3, by simp [xms, State.pushCell, State.setCell, h4, xro]; omega, fun q hq => ?_⟩
    · simp only [xms, State.pushCell, State.setCell]
      rw [Array.getElem?_setIfInBounds_self_of_lt (by simp [h1]; omega)]
    · simp only [xms, State.pushCell, State.setCell]
      rw [Array.getElem?_setIfInBounds_ne (Nat.ne_of_gt hq), Array.getElem?_push, if_neg (by omega)]
      exact h5 q hq
theorem xmk1 {Q : Addr → Pre} {E : CtlPost} {e : Env} {d : Bool} {acts : List Action} {S : State} {comp c0 : ClassId} {kc : Class} (hkc : S.vm.classes[comp]? = some kc) (hkindc : kc.kind = .array c0 .int) (hlim : e.platform.arrayLengthLimit = 2147483645) (hheap : 536870912 ≤ e.platform.maxHeapBytes) (hc : S.heap.size < e.platform.maxCells) (hs : S.slotsUsed + 12 ≤ e.platform.maxSlots)
    (hq : ∀ acts', Q S.heap.size d acts' (S.pushCell (xro comp))) : wp (Op.multianewarray.make comp [12]) Q E e d acts S := by
  have hn : (12 : Int32).toNatClampNeg = 12 := by decide
  rw [Op.multianewarray.make]
  simp only [show ¬ (12 : Int32) < 0 by decide, if_false, wp_bind', wp_pure', W.theClass, hkc, Option.some.injEq, exists_eq_left', hkindc, hn]
  refine W.newArray_of hkc hkindc (by rw [hlim]; decide) (by show ¬ 12 * 4 > _; omega) hc hs rfl hq
theorem xmk {Q : Addr → Pre} {E : CtlPost} {e : Env} {d : Bool} {acts : List Action} {S : State} {c comp c0 : ClassId} {k kc : Class} (hk : S.vm.classes[c]? = some k) (hkind : k.kind = .array comp (.array .int)) (hkc : S.vm.classes[comp]? = some kc) (hkindc : kc.kind = .array c0 .int) (hlim : e.platform.arrayLengthLimit = 2147483645) (hheap : 536870912 ≤ e.platform.maxHeapBytes) (hc : S.heap.size + 5 ≤ e.platform.maxCells) (hs : S.slotsUsed + 52 ≤ e.platform.maxSlots)
    (hq : ∀ d' acts', Q S.heap.size d' acts' (xms c comp S 4)) : wp (Op.multianewarray.make c [4, 12]) Q E e d acts S := by
  have hn : (4 : Int32).toNatClampNeg = 4 := by decide
  rw [Op.multianewarray.make]
  simp only [show ¬ (4 : Int32) < 0 by decide, if_false, wp_bind', wp_pure', W.theClass, hk, Option.some.injEq, exists_eq_left', hkind, hn]
  refine W.newArray_of hk hkind (by rw [hlim]; decide) (by show ¬ 4 * 4 > _; omega) (by omega) (by omega) rfl (fun acts1 => ?_)
  simp only [show ((4 : Int32) == 0) = false by decide, Bool.false_eq_true, if_false]
  have step : ∀ (i : Nat) (d : Bool) (acts : List Action) (P : ForInStep PUnit → Pre), i < 4 → (∀ d' acts', P (ForInStep.yield PUnit.unit) d' acts' (xms c comp S (i + 1))) → wp (do let r ← Op.multianewarray.make comp [12]; writeLoc S.heap.size i (Value.ref r); Pure.pure (ForInStep.yield PUnit.unit)) P E e d acts (xms c comp S i) := by
    intro i d acts P hi hP
    obtain ⟨h1, h2, h3, h4, h5⟩ := xms_facts c comp S i
    obtain ⟨o1, o2, o3⟩ := xou_facts c S.heap.size i
    rw [wp_bind']
    refine xmk1 (by rw [h3]; exact hkc) hkindc hlim hheap (by rw [h1]; omega) (by rw [h4]; omega) (fun acts' => ?_)
    rw [wp_bind', W.writeLoc]
    refine ⟨xou c S.heap.size i, ?_, by rw [o2]; decide, by rw [o3]; exact hi, ?_, ?_⟩
    · simp only [State.pushCell]
      rw [Array.getElem?_push, if_neg (by rw [h1]; omega)]
      exact h2
    · have hk2 : (xms c comp S i).vm.classes[c]? = some k := by rw [h3]; exact hk
      simp [State.fitsSlot, State.slotType?, o1, o2, hk2, hkind, fits]
    · have e1 : (xms c comp S i).heap.size = S.heap.size + 1 + i := h1
      rw [wp_pure', e1]
      exact hP _ _
  rw [Std.Legacy.Range.forIn_eq_forIn_range']
  have hrg : List.range' [:4].start [:4].size [:4].step = [0, 1, 2, 3] := by decide
  rw [hrg, wp_bind', List.forIn_cons, wp_bind']
  refine step 0 _ _ _ (by decide) (fun d1 a1 => ?_)
  dsimp only
  rw [List.forIn_cons, wp_bind']
  refine step 1 _ _ _ (by decide) (fun d2 a2 => ?_)
  dsimp only
  rw [List.forIn_cons, wp_bind']
  refine step 2 _ _ _ (by decide) (fun d3 a3 => ?_)
  dsimp only
  rw [List.forIn_cons, wp_bind']
  refine step 3 _ _ _ (by decide) (fun d4 a4 => ?_)
  dsimp only
  rw [List.forIn_nil, wp_pure', wp_pure']
  exact hq _ _
theorem xms_setTop (c comp : ClassId) (S : State) (g : JFrame) : ∀ i, xms c comp (S.setTop g) i = (xms c comp S i).setTop g
  | 0 => rfl
  | i + 1 => by
    show ((xms c comp (S.setTop g) i).pushCell (xro comp)).setCell S.heap.size (xou c S.heap.size (i + 1)) = _
    rw [xms_setTop c comp S g i]
    rfl
section XMU
variable {p : Program} {l : Launch} {e : Env} {R : Room} {s : State} {m : MethodId} {args : Array Value} {below : List Frame} {meth : Method} {c : Code} {H : Heap} {locs : List Loc} {cells slots : Nat} {Q : State → Prop}
variable {cc : ByteArray} {pc : Nat} {ls : Array Slot} {rest : List Value} {D : va_G} {cl : List vw_C} {A : Nat → Prop} {ws : va_W}
theorem xmu_stand {T : State} {ca comp : ClassId} (X : Stand p l e R s m args below meth c T locs cells slots) : ∀ i, i ≤ 4 → Stand p l e R s m args below meth c (xms ca comp T i) locs (cells + 1 + i) (slots + 4 + 12 * i)
  | 0, _ => by
    have h := X.pushed (xou ca T.heap.size 0)
    have e4 : (xou ca T.heap.size 0).slots.size = 4 := (xou_facts ca T.heap.size 0).2.2
    rw [e4] at h
    exact h
  | i + 1, hi => by
    have X1 := xmu_stand (ca := ca) (comp := comp) X i (by omega)
    obtain ⟨h1, h2, h3, h4, h5⟩ := xms_facts ca comp T i
    have X2 := X1.pushed (xro comp)
    have hc : ((xms ca comp T i).pushCell (xro comp)).heap[T.heap.size]? = some (xou ca T.heap.size i) := by
      simp only [State.pushCell]
      rw [Array.getElem?_push, if_neg (by rw [h1]; omega)]
      exact h2
    have X3 := X2.stored hc i (.ref (T.heap.size + 1 + i))
    have e4 : (xro comp).slots.size = 12 := by simp [xro]
    rw [e4] at X3
    have X4 := Stand.forget (extra := [⟨T.heap.size, i⟩]) X3 (fun y hy => by
      rw [List.mem_singleton] at hy
      rw [hy]
      exact X.same.2.1)
    have e5 : slots + 4 + 12 * i + 12 = slots + 4 + 12 * (i + 1) := by omega
    rw [e5] at X4
    exact X4
theorem xmulti (hexec : p.tables.exec = Jvm.exec) (hb : c.code = cc) {own : String} {index : Nat} (hown : s.vm.findClass own = some m.cls) (hlink : (Cond.classLink own index "[[I").before args s = true) (hMA : xMA s) (harr : (Cond.arrayClass .int).before args s = true)
    (hP : va_P D cl ws H) (hS : va_S A s.heap H locs) (hA : ∀ q, s.heap.size ≤ q → A q) (hcells : cells + 5 ≤ R.cells) (hslots : slots + 52 ≤ R.slots) (hdg : decode cc pc = .ok (.multianewarray index 2, 4))
    (kk : ∀ (q : Nat) (H1 : Heap), va_P D cl ws H1 → va_S A s.heap H1 locs → W p l e R s m args below meth c H1 locs (cells + 5) (slots + 52) Q (F0 m (pc + 4) ls (.ref q :: rest))) : W p l e R s m args below meth c H locs cells slots Q (F0 m pc ls (.int 12 :: .int 4 :: rest)) := by
  intro T hT X
  have hpl : e.platform.magicAccessors = ({} : Platform).magicAccessors := by rw [X.admits.platform]
  obtain ⟨c1, hf1, hcl⟩ := Cond.classLink_spec hown hlink e.platform hpl
  obtain ⟨comp, c2, k2, m1, m2, m3, m4⟩ := hMA
  cases hf1.symm.trans m2
  obtain ⟨cA, kA, c0, a1, a2, a3⟩ := Cond.arrayClass_spec harr
  have a1' : s.vm.findClass "[I" = some cA := by
    have e0 : "[" ++ FieldType.int.toString = "[I" := by decide +kernel
    rw [← e0]; exact a1
  cases m1.symm.trans a1'
  obtain ⟨hg₁, hwarm₁, hready₁⟩ := State.classEntry (e := e) X.warmed hcl
  generalize T.vm.noted m.cls index (.cls c1) = vm₁ at hg₁ hwarm₁ hready₁
  obtain ⟨k2', hk2', he2⟩ := hwarm₁.alike.2.2 _ _ m3
  obtain ⟨kA', hkA', heA⟩ := hwarm₁.alike.2.2 _ _ a2
  have X₁ := X.noted hwarm₁
  have X₄ := xmu_stand (ca := c1) (comp := comp) X₁ 4 (Nat.le_refl _)
  obtain ⟨g1, g2, g3, g4, g5⟩ := xms_facts c1 comp (T.setVm vm₁) 4
  have hTs : (T.setVm vm₁).heap = H := hT
  have hr1 := X.cellsAbove (n := 5) hcells
  have hr2 := X.slotsAbove (n := 52) hslots
  have hP' : va_P D cl ws (xms c1 comp (T.setVm vm₁) 4).heap := hP.kept (fun k9 x hx => by
    have := (hP k9 x hx).lt
    rw [g5 x.1 (by rw [hTs]; exact this), hTs])
  have hS' : va_S A s.heap (xms c1 comp (T.setVm vm₁) 4).heap locs := ⟨by rw [g1, hTs]; have := hS.1; omega, fun q h1 h2 => by
    have := hS.1
    rw [g5 q (by rw [hTs]; omega), hTs]
    exact hS.2.1 q h1 h2, hS.2.2⟩
  obtain ⟨t, b1, b2⟩ := kk T.heap.size _ hP' hS' _ rfl X₄
  refine ⟨t, ?_, b2⟩
  have hAt : At (T.setVm vm₁) m c below := X₁.here
  have hm0 : (T.setTop (F0 m pc ls (.int 12 :: .int 4 :: rest))).method? = some m := State.method?_setTop _ X.here.top
  jvm_step X.here [X.here.top, hexec, hb, hdg]
  simp only [Op.multianewarray.sem, wp_bind']
  rw [W.resolveClassAt_transfer (s := T.setTop (F0 m pc ls (.int 12 :: .int 4 :: rest))) hm0 hg₁ hready₁, W.resolveClassAt_ready (s := (T.setTop (F0 m pc ls (.int 12 :: .int 4 :: rest))).setVm vm₁) hm0 hready₁]
  rw [wp_bind', W.popN, if_neg (by decide)]
  have htop : ((T.setTop (F0 m pc ls (.int 12 :: .int 4 :: rest))).setVm vm₁).topJava? = some (F0 m pc ls (.int 12 :: .int 4 :: rest)) := State.topJava?_setTop' _ X.here.top
  refine ⟨_, htop, [.int 4, .int 12], rest, rfl, rfl, ?_⟩
  rw [wp_bind', List.mapM_cons, wp_bind', wp_pure', wp_bind', List.mapM_cons, wp_bind', wp_pure', wp_bind', List.mapM_nil, wp_pure', wp_pure', wp_pure', wp_bind']
  refine xmk (S := ((T.setTop (F0 m pc ls (.int 12 :: .int 4 :: rest))).setVm vm₁).setTop (F0 m pc ls rest)) (c := c1) (comp := comp) (c0 := c0) hk2' (by rw [he2]; exact m4) hkA' (by rw [heA]; exact a3) (Launch.admits_arrayLengthLimit X.admits) (by rw [Launch.admits_maxHeapBytes X.admits]; exact Nat.le_refl _) hr1 hr2 (fun d' acts' => ?_)
  have e1 : ((T.setTop (F0 m pc ls (.int 12 :: .int 4 :: rest))).setVm vm₁).setTop (F0 m pc ls rest) = (T.setVm vm₁).setTop (F0 m pc ls rest) := by
    show ((T.setVm vm₁).setTop (F0 m pc ls (.int 12 :: .int 4 :: rest))).setTop (F0 m pc ls rest) = _
    simp
  rw [e1, xms_setTop]
  have htop4 : (xms c1 comp (T.setVm vm₁) 4).topJava?.isSome := X₄.here.top
  have hsz4 : ((T.setVm vm₁).setTop (F0 m pc ls rest)).heap.size = T.heap.size := rfl
  rw [hsz4]
  simp [jvm, htop4]
  first | exact fun _ => b1 | exact b1
end XMU
end
section
theorem xsame {D : va_G} {cl : List vw_C} {tys : List (ClassId × FieldType)} {s : State} {c1 c2 : ClassId} {ty : FieldType} (hty : ∀ C, ty ≠ .object C) (hK : va_K D cl tys s) (i j : Nat) (hi : tys[i]? = some (c1, ty)) (hj : tys[j]? = some (c2, ty)) : c1 = c2 := by
  have h1 := (hK.2 i _ hi).2
  have h2 := (hK.2 j _ hj).2
  cases ty <;> first | exact absurd rfl (hty _) | exact Option.some.inj (h1.symm.trans h2)
theorem d_Bu_init_0 : decode b_Bu_init 0 = .ok (.aload_n 0, 1) := by decide +kernel
theorem d_Bu_init_1 : decode b_Bu_init 1 = .ok (.invokespecial 3, 3) := by decide +kernel
theorem d_Bu_init_4 : decode b_Bu_init 4 = .ok (.aload_n 0, 1) := by decide +kernel
theorem d_Bu_init_5 : decode b_Bu_init 5 = .ok (.bipush (12), 2) := by decide +kernel
theorem d_Bu_init_7 : decode b_Bu_init 7 = .ok (.newarray .int, 2) := by decide +kernel
theorem d_Bu_init_9 : decode b_Bu_init 9 = .ok (.putfield 9, 3) := by decide +kernel
theorem d_Bu_init_12 : decode b_Bu_init 12 = .ok (.return_, 1) := by decide +kernel
set_option maxRecDepth 20000 in
set_option maxHeartbeats 4000000 in
theorem c_Bu_init (l : Launch) (D : va_G) (bu : Nat) (cI : ClassId) (sz : Nat)  : xMv l y_Bu_init w_Bu_init { frames := 1, cells := 1, slots := 12, locals := 13 } D cl [.ref bu] sz [(cI, .int)] [(bu, .inr (0, [.null, .int 0, .int 0, .int 0]))] (fun (u : Nat) => True) (fun u => [(bu, .inr (0, [.ref u, .int 0, .int 0, .int 0])), (u, .inl (cI, 12, .inl (fun _ => 0)))]) (fun _ => []) := by
  refine xMv_of (by decide +kernel) rfl (Nat.le_of_ble_eq_true rfl) ?_
  intro p e s m args below meth c ls A B hAe hA hsz hP hK hD hS hAm hTh hAs hl
  obtain ⟨⟨hx, hb, hml, hown, hts⟩, hret, hlk, hnm, hemp⟩ := id B
  have hl : lv_has ls 1 [(0, .ref bu)] := hl
  refine lv_aload_n hx hb d_Bu_init_0 rfl (lv_at hl 0 rfl) ?_
  refine W.objInit hx hb hown (hts _ (List.mem_cons_of_mem _ tw_127)) (hts _ (List.mem_cons_of_mem _ tw_23)) (hts _ (List.mem_cons_of_mem _ tw_24)) rfl (by rw [hml]; exact hl.1) rfl d_Bu_init_1 (Nat.le_of_ble_eq_true rfl) (Nat.le_of_ble_eq_true rfl) ?_
  refine W.eq (g2 := F0 m 4 ls []) rfl ?_
  refine lv_aload_n hx hb d_Bu_init_4 rfl (lv_at hl 0 rfl) ?_
  refine lv_bipush (v := 12) hx hb d_Bu_init_5 (by decide) ?_
  refine va_newa (atype := .int) (a0 := (12, .inl (fun _ => 0))) (N' := 12) (ty := .int) hx hb (hts _ (List.mem_cons_of_mem _ tw_47)) rfl hK hP hD hS hA (fun _ => rfl) (by decide) (by decide) (by decide) (Nat.le_of_ble_eq_true rfl) (Nat.le_of_ble_eq_true rfl) d_Bu_init_7 (fun q1 cA2 H hK hP hD hS => ?_)
  obtain rfl : cI = cA2 := xsame (by intro C h; cases h) hK 0 1 rfl rfl
  have hK : va_K D cl [(cI, .int)] s := hK.sub [0] rfl
  have hP : va_P D cl [(bu, .inr (0, [.null, .int 0, .int 0, .int 0])), (q1, .inl (cI, 12, .inl (fun _ => 0)))] H := hP
  have hD : va_D A [(bu, .inr (0, [.null, .int 0, .int 0, .int 0])), (q1, .inl (cI, 12, .inl (fun _ => 0)))] := hD
  refine va_putF (D := D) (ci := 0) (v := .ref q1) (ty := .array .int) (C := R_Bu) (T := F_Bu) (N := 4) hx hb hts (fun w h => List.mem_cons_of_mem _ (u_Bu w h)) t_Bu o_Bu n_Bu hown hK hP hD hS 0 rfl rfl 0 (by decide) (hts _ (List.mem_cons_of_mem _ tw_128)) (fun _ h9 => h9) rfl hnm rfl (by decide +kernel) rfl rfl (Nat.le_of_ble_eq_true rfl) d_Bu_init_9 (fun H locs hP hD hS => ?_)
  have hP : va_P D cl [(bu, .inr (0, [.ref q1, .int 0, .int 0, .int 0])), (q1, .inl (cI, 12, .inl (fun _ => 0)))] H := hP
  have hD : va_D A [(bu, .inr (0, [.ref q1, .int 0, .int 0, .int 0])), (q1, .inl (cI, 12, .inl (fun _ => 0)))] := hD
  exact xrv q1 B d_Bu_init_12 (trivial) (hP.sub (ws' := [(bu, .inr (0, [.ref q1, .int 0, .int 0, .int 0])), (q1, .inl (cI, 12, .inl (fun _ => 0)))]) [0, 1] rfl) (hK.sub (tys' := []) [] rfl) (hD.sub (ws' := [(bu, .inr (0, [.ref q1, .int 0, .int 0, .int 0])), (q1, .inl (cI, 12, .inl (fun _ => 0)))]) [0, 1] (by decide) rfl) hS (Nat.le_of_ble_eq_true rfl) (Nat.le_of_ble_eq_true rfl)
theorem d_Di_init_0 : decode b_Di_init 0 = .ok (.aload_n 0, 1) := by decide +kernel
theorem d_Di_init_1 : decode b_Di_init 1 = .ok (.invokespecial 3, 3) := by decide +kernel
theorem d_Di_init_4 : decode b_Di_init 4 = .ok (.aload_n 0, 1) := by decide +kernel
theorem d_Di_init_5 : decode b_Di_init 5 = .ok (.bipush (24), 2) := by decide +kernel
theorem d_Di_init_7 : decode b_Di_init 7 = .ok (.newarray .int, 2) := by decide +kernel
theorem d_Di_init_9 : decode b_Di_init 9 = .ok (.putfield 9, 3) := by decide +kernel
theorem d_Di_init_12 : decode b_Di_init 12 = .ok (.aload_n 0, 1) := by decide +kernel
theorem d_Di_init_13 : decode b_Di_init 13 = .ok (.bipush (24), 2) := by decide +kernel
theorem d_Di_init_15 : decode b_Di_init 15 = .ok (.newarray .int, 2) := by decide +kernel
theorem d_Di_init_17 : decode b_Di_init 17 = .ok (.putfield 15, 3) := by decide +kernel
theorem d_Di_init_20 : decode b_Di_init 20 = .ok (.return_, 1) := by decide +kernel
set_option maxRecDepth 20000 in
set_option maxHeartbeats 4000000 in
theorem c_Di_init (l : Launch) (D : va_G) (di : Nat) (cI : ClassId) (sz : Nat)  : xMv l y_Di_init w_Di_init { frames := 1, cells := 2, slots := 48, locals := 13 } D cl [.ref di] sz [(cI, .int)] [(di, .inr (1, [.null, .null, .int 0, .int 0]))] (fun (u : Nat × Nat) => True) (fun u => [(di, .inr (1, [.ref u.1, .ref u.2, .int 0, .int 0])), (u.1, .inl (cI, 24, .inl (fun _ => 0))), (u.2, .inl (cI, 24, .inl (fun _ => 0)))]) (fun _ => []) := by
  refine xMv_of (by decide +kernel) rfl (Nat.le_of_ble_eq_true rfl) ?_
  intro p e s m args below meth c ls A B hAe hA hsz hP hK hD hS hAm hTh hAs hl
  obtain ⟨⟨hx, hb, hml, hown, hts⟩, hret, hlk, hnm, hemp⟩ := id B
  have hl : lv_has ls 1 [(0, .ref di)] := hl
  refine lv_aload_n hx hb d_Di_init_0 rfl (lv_at hl 0 rfl) ?_
  refine W.objInit hx hb hown (hts _ (List.mem_cons_of_mem _ tw_30)) (hts _ (List.mem_cons_of_mem _ tw_23)) (hts _ (List.mem_cons_of_mem _ tw_24)) rfl (by rw [hml]; exact hl.1) rfl d_Di_init_1 (Nat.le_of_ble_eq_true rfl) (Nat.le_of_ble_eq_true rfl) ?_
  refine W.eq (g2 := F0 m 4 ls []) rfl ?_
  refine lv_aload_n hx hb d_Di_init_4 rfl (lv_at hl 0 rfl) ?_
  refine lv_bipush (v := 24) hx hb d_Di_init_5 (by decide) ?_
  refine va_newa (atype := .int) (a0 := (24, .inl (fun _ => 0))) (N' := 24) (ty := .int) hx hb (hts _ (List.mem_cons_of_mem _ tw_47)) rfl hK hP hD hS hA (fun _ => rfl) (by decide) (by decide) (by decide) (Nat.le_of_ble_eq_true rfl) (Nat.le_of_ble_eq_true rfl) d_Di_init_7 (fun q1 cA2 H hK hP hD hS => ?_)
  obtain rfl : cI = cA2 := xsame (by intro C h; cases h) hK 0 1 rfl rfl
  have hK : va_K D cl [(cI, .int)] s := hK.sub [0] rfl
  have hP : va_P D cl [(di, .inr (1, [.null, .null, .int 0, .int 0])), (q1, .inl (cI, 24, .inl (fun _ => 0)))] H := hP
  have hD : va_D A [(di, .inr (1, [.null, .null, .int 0, .int 0])), (q1, .inl (cI, 24, .inl (fun _ => 0)))] := hD
  refine va_putF (D := D) (ci := 1) (v := .ref q1) (ty := .array .int) (C := R_Di) (T := F_Di) (N := 4) hx hb hts (fun w h => List.mem_cons_of_mem _ (u_Di w h)) t_Di o_Di n_Di hown hK hP hD hS 0 rfl rfl 0 (by decide) (hts _ (List.mem_cons_of_mem _ tw_31)) (fun _ h9 => h9) rfl hnm rfl (by decide +kernel) rfl rfl (Nat.le_of_ble_eq_true rfl) d_Di_init_9 (fun H locs hP hD hS => ?_)
  have hP : va_P D cl [(di, .inr (1, [.ref q1, .null, .int 0, .int 0])), (q1, .inl (cI, 24, .inl (fun _ => 0)))] H := hP
  have hD : va_D A [(di, .inr (1, [.ref q1, .null, .int 0, .int 0])), (q1, .inl (cI, 24, .inl (fun _ => 0)))] := hD
  refine lv_aload_n hx hb d_Di_init_12 rfl (lv_at hl 0 rfl) ?_
  refine lv_bipush (v := 24) hx hb d_Di_init_13 (by decide) ?_
  refine va_newa (atype := .int) (a0 := (24, .inl (fun _ => 0))) (N' := 24) (ty := .int) hx hb (hts _ (List.mem_cons_of_mem _ tw_47)) rfl hK hP hD hS hA (fun _ => rfl) (by decide) (by decide) (by decide) (Nat.le_of_ble_eq_true rfl) (Nat.le_of_ble_eq_true rfl) d_Di_init_15 (fun q3 cA4 H hK hP hD hS => ?_)
  obtain rfl : cI = cA4 := xsame (by intro C h; cases h) hK 0 1 rfl rfl
  have hK : va_K D cl [(cI, .int)] s := hK.sub [0] rfl
  have hP : va_P D cl [(di, .inr (1, [.ref q1, .null, .int 0, .int 0])), (q1, .inl (cI, 24, .inl (fun _ => 0))), (q3, .inl (cI, 24, .inl (fun _ => 0)))] H := hP
  have hD : va_D A [(di, .inr (1, [.ref q1, .null, .int 0, .int 0])), (q1, .inl (cI, 24, .inl (fun _ => 0))), (q3, .inl (cI, 24, .inl (fun _ => 0)))] := hD
  refine va_putF (D := D) (ci := 1) (v := .ref q3) (ty := .array .int) (C := R_Di) (T := F_Di) (N := 4) hx hb hts (fun w h => List.mem_cons_of_mem _ (u_Di w h)) t_Di o_Di n_Di hown hK hP hD hS 0 rfl rfl 1 (by decide) (hts _ (List.mem_cons_of_mem _ tw_33)) (fun _ h9 => h9) rfl hnm rfl (by decide +kernel) rfl rfl (Nat.le_of_ble_eq_true rfl) d_Di_init_17 (fun H locs hP hD hS => ?_)
  have hP : va_P D cl [(di, .inr (1, [.ref q1, .ref q3, .int 0, .int 0])), (q1, .inl (cI, 24, .inl (fun _ => 0))), (q3, .inl (cI, 24, .inl (fun _ => 0)))] H := hP
  have hD : va_D A [(di, .inr (1, [.ref q1, .ref q3, .int 0, .int 0])), (q1, .inl (cI, 24, .inl (fun _ => 0))), (q3, .inl (cI, 24, .inl (fun _ => 0)))] := hD
  exact xrv (q1, q3) B d_Di_init_20 (trivial) (hP.sub (ws' := [(di, .inr (1, [.ref q1, .ref q3, .int 0, .int 0])), (q1, .inl (cI, 24, .inl (fun _ => 0))), (q3, .inl (cI, 24, .inl (fun _ => 0)))]) [0, 1, 2] rfl) (hK.sub (tys' := []) [] rfl) (hD.sub (ws' := [(di, .inr (1, [.ref q1, .ref q3, .int 0, .int 0])), (q1, .inl (cI, 24, .inl (fun _ => 0))), (q3, .inl (cI, 24, .inl (fun _ => 0)))]) [0, 1, 2] (by decide) rfl) hS (Nat.le_of_ble_eq_true rfl) (Nat.le_of_ble_eq_true rfl)
theorem d_Gr_init_0 : decode b_Gr_init 0 = .ok (.aload_n 0, 1) := by decide +kernel
theorem d_Gr_init_1 : decode b_Gr_init 1 = .ok (.invokespecial 3, 3) := by decide +kernel
theorem d_Gr_init_4 : decode b_Gr_init 4 = .ok (.aload_n 0, 1) := by decide +kernel
theorem d_Gr_init_5 : decode b_Gr_init 5 = .ok (.bipush (12), 2) := by decide +kernel
theorem d_Gr_init_7 : decode b_Gr_init 7 = .ok (.newarray .int, 2) := by decide +kernel
theorem d_Gr_init_9 : decode b_Gr_init 9 = .ok (.putfield 9, 3) := by decide +kernel
theorem d_Gr_init_12 : decode b_Gr_init 12 = .ok (.aload_n 0, 1) := by decide +kernel
theorem d_Gr_init_13 : decode b_Gr_init 13 = .ok (.bipush (12), 2) := by decide +kernel
theorem d_Gr_init_15 : decode b_Gr_init 15 = .ok (.newarray .int, 2) := by decide +kernel
theorem d_Gr_init_17 : decode b_Gr_init 17 = .ok (.putfield 15, 3) := by decide +kernel
theorem d_Gr_init_20 : decode b_Gr_init 20 = .ok (.aload_n 0, 1) := by decide +kernel
theorem d_Gr_init_21 : decode b_Gr_init 21 = .ok (.bipush (12), 2) := by decide +kernel
theorem d_Gr_init_23 : decode b_Gr_init 23 = .ok (.newarray .int, 2) := by decide +kernel
theorem d_Gr_init_25 : decode b_Gr_init 25 = .ok (.putfield 18, 3) := by decide +kernel
theorem d_Gr_init_28 : decode b_Gr_init 28 = .ok (.aload_n 0, 1) := by decide +kernel
theorem d_Gr_init_29 : decode b_Gr_init 29 = .ok (.bipush (12), 2) := by decide +kernel
theorem d_Gr_init_31 : decode b_Gr_init 31 = .ok (.newarray .int, 2) := by decide +kernel
theorem d_Gr_init_33 : decode b_Gr_init 33 = .ok (.putfield 21, 3) := by decide +kernel
theorem d_Gr_init_36 : decode b_Gr_init 36 = .ok (.aload_n 0, 1) := by decide +kernel
theorem d_Gr_init_37 : decode b_Gr_init 37 = .ok (.iconst (4), 1) := by decide +kernel
theorem d_Gr_init_38 : decode b_Gr_init 38 = .ok (.bipush (12), 2) := by decide +kernel
theorem d_Gr_init_40 : decode b_Gr_init 40 = .ok (.multianewarray 24 2, 4) := by decide +kernel
theorem d_Gr_init_44 : decode b_Gr_init 44 = .ok (.putfield 26, 3) := by decide +kernel
theorem d_Gr_init_47 : decode b_Gr_init 47 = .ok (.return_, 1) := by decide +kernel
set_option maxRecDepth 20000 in
set_option maxHeartbeats 4000000 in
theorem c_Gr_init (l : Launch) (D : va_G) (gr : Nat) (cI : ClassId) (sz : Nat)  : xMv l y_Gr_init w_Gr_init { frames := 1, cells := 9, slots := 100, locals := 13 } D cl [.ref gr] sz [(cI, .int)] [(gr, .inr (2, [.null, .null, .null, .null, .null, .int 0]))] (fun (u : Nat × Nat × Nat × Nat × Nat) => True) (fun u => [(gr, .inr (2, [.ref u.1, .ref u.2.1, .ref u.2.2.1, .ref u.2.2.2.1, .ref u.2.2.2.2, .int 0])), (u.1, .inl (cI, 12, .inl (fun _ => 0))), (u.2.1, .inl (cI, 12, .inl (fun _ => 0))), (u.2.2.1, .inl (cI, 12, .inl (fun _ => 0)))]) (fun _ => []) := by
  refine xMv_of (by decide +kernel) rfl (Nat.le_of_ble_eq_true rfl) ?_
  intro p e s m args below meth c ls A B hAe hA hsz hP hK hD hS hAm hTh hAs hl
  obtain ⟨⟨hx, hb, hml, hown, hts⟩, hret, hlk, hnm, hemp⟩ := id B
  have hl : lv_has ls 1 [(0, .ref gr)] := hl
  refine lv_aload_n hx hb d_Gr_init_0 rfl (lv_at hl 0 rfl) ?_
  refine W.objInit hx hb hown (hts _ (List.mem_cons_of_mem _ tw_53)) (hts _ (List.mem_cons_of_mem _ tw_23)) (hts _ (List.mem_cons_of_mem _ tw_24)) rfl (by rw [hml]; exact hl.1) rfl d_Gr_init_1 (Nat.le_of_ble_eq_true rfl) (Nat.le_of_ble_eq_true rfl) ?_
  refine W.eq (g2 := F0 m 4 ls []) rfl ?_
  refine lv_aload_n hx hb d_Gr_init_4 rfl (lv_at hl 0 rfl) ?_
  refine lv_bipush (v := 12) hx hb d_Gr_init_5 (by decide) ?_
  refine va_newa (atype := .int) (a0 := (12, .inl (fun _ => 0))) (N' := 12) (ty := .int) hx hb (hts _ (List.mem_cons_of_mem _ tw_47)) rfl hK hP hD hS hA (fun _ => rfl) (by decide) (by decide) (by decide) (Nat.le_of_ble_eq_true rfl) (Nat.le_of_ble_eq_true rfl) d_Gr_init_7 (fun q1 cA2 H hK hP hD hS => ?_)
  obtain rfl : cI = cA2 := xsame (by intro C h; cases h) hK 0 1 rfl rfl
  have hK : va_K D cl [(cI, .int)] s := hK.sub [0] rfl
  have hP : va_P D cl [(gr, .inr (2, [.null, .null, .null, .null, .null, .int 0])), (q1, .inl (cI, 12, .inl (fun _ => 0)))] H := hP
  have hD : va_D A [(gr, .inr (2, [.null, .null, .null, .null, .null, .int 0])), (q1, .inl (cI, 12, .inl (fun _ => 0)))] := hD
  refine va_putF (D := D) (ci := 2) (v := .ref q1) (ty := .array .int) (C := R_Gr) (T := F_Gr) (N := 6) hx hb hts (fun w h => List.mem_cons_of_mem _ (u_Gr w h)) t_Gr o_Gr n_Gr hown hK hP hD hS 0 rfl rfl 0 (by decide) (hts _ (List.mem_cons_of_mem _ tw_56)) (fun _ h9 => h9) rfl hnm rfl (by decide +kernel) rfl rfl (Nat.le_of_ble_eq_true rfl) d_Gr_init_9 (fun H locs hP hD hS => ?_)
  have hP : va_P D cl [(gr, .inr (2, [.ref q1, .null, .null, .null, .null, .int 0])), (q1, .inl (cI, 12, .inl (fun _ => 0)))] H := hP
  have hD : va_D A [(gr, .inr (2, [.ref q1, .null, .null, .null, .null, .int 0])), (q1, .inl (cI, 12, .inl (fun _ => 0)))] := hD
  refine lv_aload_n hx hb d_Gr_init_12 rfl (lv_at hl 0 rfl) ?_
  refine lv_bipush (v := 12) hx hb d_Gr_init_13 (by decide) ?_
  refine va_newa (atype := .int) (a0 := (12, .inl (fun _ => 0))) (N' := 12) (ty := .int) hx hb (hts _ (List.mem_cons_of_mem _ tw_47)) rfl hK hP hD hS hA (fun _ => rfl) (by decide) (by decide) (by decide) (Nat.le_of_ble_eq_true rfl) (Nat.le_of_ble_eq_true rfl) d_Gr_init_15 (fun q3 cA4 H hK hP hD hS => ?_)
  obtain rfl : cI = cA4 := xsame (by intro C h; cases h) hK 0 1 rfl rfl
  have hK : va_K D cl [(cI, .int)] s := hK.sub [0] rfl
  have hP : va_P D cl [(gr, .inr (2, [.ref q1, .null, .null, .null, .null, .int 0])), (q1, .inl (cI, 12, .inl (fun _ => 0))), (q3, .inl (cI, 12, .inl (fun _ => 0)))] H := hP
  have hD : va_D A [(gr, .inr (2, [.ref q1, .null, .null, .null, .null, .int 0])), (q1, .inl (cI, 12, .inl (fun _ => 0))), (q3, .inl (cI, 12, .inl (fun _ => 0)))] := hD
  refine va_putF (D := D) (ci := 2) (v := .ref q3) (ty := .array .int) (C := R_Gr) (T := F_Gr) (N := 6) hx hb hts (fun w h => List.mem_cons_of_mem _ (u_Gr w h)) t_Gr o_Gr n_Gr hown hK hP hD hS 0 rfl rfl 1 (by decide) (hts _ (List.mem_cons_of_mem _ tw_58)) (fun _ h9 => h9) rfl hnm rfl (by decide +kernel) rfl rfl (Nat.le_of_ble_eq_true rfl) d_Gr_init_17 (fun H locs hP hD hS => ?_)
  have hP : va_P D cl [(gr, .inr (2, [.ref q1, .ref q3, .null, .null, .null, .int 0])), (q1, .inl (cI, 12, .inl (fun _ => 0))), (q3, .inl (cI, 12, .inl (fun _ => 0)))] H := hP
  have hD : va_D A [(gr, .inr (2, [.ref q1, .ref q3, .null, .null, .null, .int 0])), (q1, .inl (cI, 12, .inl (fun _ => 0))), (q3, .inl (cI, 12, .inl (fun _ => 0)))] := hD
  refine lv_aload_n hx hb d_Gr_init_20 rfl (lv_at hl 0 rfl) ?_
  refine lv_bipush (v := 12) hx hb d_Gr_init_21 (by decide) ?_
  refine va_newa (atype := .int) (a0 := (12, .inl (fun _ => 0))) (N' := 12) (ty := .int) hx hb (hts _ (List.mem_cons_of_mem _ tw_47)) rfl hK hP hD hS hA (fun _ => rfl) (by decide) (by decide) (by decide) (Nat.le_of_ble_eq_true rfl) (Nat.le_of_ble_eq_true rfl) d_Gr_init_23 (fun q5 cA6 H hK hP hD hS => ?_)
  obtain rfl : cI = cA6 := xsame (by intro C h; cases h) hK 0 1 rfl rfl
  have hK : va_K D cl [(cI, .int)] s := hK.sub [0] rfl
  have hP : va_P D cl [(gr, .inr (2, [.ref q1, .ref q3, .null, .null, .null, .int 0])), (q1, .inl (cI, 12, .inl (fun _ => 0))), (q3, .inl (cI, 12, .inl (fun _ => 0))), (q5, .inl (cI, 12, .inl (fun _ => 0)))] H := hP
  have hD : va_D A [(gr, .inr (2, [.ref q1, .ref q3, .null, .null, .null, .int 0])), (q1, .inl (cI, 12, .inl (fun _ => 0))), (q3, .inl (cI, 12, .inl (fun _ => 0))), (q5, .inl (cI, 12, .inl (fun _ => 0)))] := hD
  refine va_putF (D := D) (ci := 2) (v := .ref q5) (ty := .array .int) (C := R_Gr) (T := F_Gr) (N := 6) hx hb hts (fun w h => List.mem_cons_of_mem _ (u_Gr w h)) t_Gr o_Gr n_Gr hown hK hP hD hS 0 rfl rfl 2 (by decide) (hts _ (List.mem_cons_of_mem _ tw_59)) (fun _ h9 => h9) rfl hnm rfl (by decide +kernel) rfl rfl (Nat.le_of_ble_eq_true rfl) d_Gr_init_25 (fun H locs hP hD hS => ?_)
  have hP : va_P D cl [(gr, .inr (2, [.ref q1, .ref q3, .ref q5, .null, .null, .int 0])), (q1, .inl (cI, 12, .inl (fun _ => 0))), (q3, .inl (cI, 12, .inl (fun _ => 0))), (q5, .inl (cI, 12, .inl (fun _ => 0)))] H := hP
  have hD : va_D A [(gr, .inr (2, [.ref q1, .ref q3, .ref q5, .null, .null, .int 0])), (q1, .inl (cI, 12, .inl (fun _ => 0))), (q3, .inl (cI, 12, .inl (fun _ => 0))), (q5, .inl (cI, 12, .inl (fun _ => 0)))] := hD
  refine lv_aload_n hx hb d_Gr_init_28 rfl (lv_at hl 0 rfl) ?_
  refine lv_bipush (v := 12) hx hb d_Gr_init_29 (by decide) ?_
  refine va_newa (atype := .int) (a0 := (12, .inl (fun _ => 0))) (N' := 12) (ty := .int) hx hb (hts _ (List.mem_cons_of_mem _ tw_47)) rfl hK hP hD hS hA (fun _ => rfl) (by decide) (by decide) (by decide) (Nat.le_of_ble_eq_true rfl) (Nat.le_of_ble_eq_true rfl) d_Gr_init_31 (fun q7 cA8 H hK hP hD hS => ?_)
  obtain rfl : cI = cA8 := xsame (by intro C h; cases h) hK 0 1 rfl rfl
  have hK : va_K D cl [(cI, .int)] s := hK.sub [0] rfl
  have hP : va_P D cl [(gr, .inr (2, [.ref q1, .ref q3, .ref q5, .null, .null, .int 0])), (q1, .inl (cI, 12, .inl (fun _ => 0))), (q3, .inl (cI, 12, .inl (fun _ => 0))), (q5, .inl (cI, 12, .inl (fun _ => 0))), (q7, .inl (cI, 12, .inl (fun _ => 0)))] H := hP
  have hD : va_D A [(gr, .inr (2, [.ref q1, .ref q3, .ref q5, .null, .null, .int 0])), (q1, .inl (cI, 12, .inl (fun _ => 0))), (q3, .inl (cI, 12, .inl (fun _ => 0))), (q5, .inl (cI, 12, .inl (fun _ => 0))), (q7, .inl (cI, 12, .inl (fun _ => 0)))] := hD
  refine va_putF (D := D) (ci := 2) (v := .ref q7) (ty := .array .int) (C := R_Gr) (T := F_Gr) (N := 6) hx hb hts (fun w h => List.mem_cons_of_mem _ (u_Gr w h)) t_Gr o_Gr n_Gr hown hK hP hD hS 0 rfl rfl 3 (by decide) (hts _ (List.mem_cons_of_mem _ tw_61)) (fun _ h9 => h9) rfl hnm rfl (by decide +kernel) rfl rfl (Nat.le_of_ble_eq_true rfl) d_Gr_init_33 (fun H locs hP hD hS => ?_)
  have hP : va_P D cl [(gr, .inr (2, [.ref q1, .ref q3, .ref q5, .ref q7, .null, .int 0])), (q1, .inl (cI, 12, .inl (fun _ => 0))), (q3, .inl (cI, 12, .inl (fun _ => 0))), (q5, .inl (cI, 12, .inl (fun _ => 0))), (q7, .inl (cI, 12, .inl (fun _ => 0)))] H := hP
  have hD : va_D A [(gr, .inr (2, [.ref q1, .ref q3, .ref q5, .ref q7, .null, .int 0])), (q1, .inl (cI, 12, .inl (fun _ => 0))), (q3, .inl (cI, 12, .inl (fun _ => 0))), (q5, .inl (cI, 12, .inl (fun _ => 0))), (q7, .inl (cI, 12, .inl (fun _ => 0)))] := hD
  refine lv_aload_n hx hb d_Gr_init_36 rfl (lv_at hl 0 rfl) ?_
  refine lv_iconst (v := 4) hx hb d_Gr_init_37 (by decide) ?_
  refine lv_bipush (v := 12) hx hb d_Gr_init_38 (by decide) ?_
  refine xmulti hx hb hown (hts _ (List.mem_cons_of_mem _ tw_54)) hAm.2.2.2.2.2 (hts _ (List.mem_cons_of_mem _ tw_47)) hP hS hA (Nat.le_of_ble_eq_true rfl) (Nat.le_of_ble_eq_true rfl) d_Gr_init_40 (fun q9 H hP hS => ?_)
  refine va_putF (D := D) (ci := 2) (v := .ref q9) (ty := .array (.array .int)) (C := R_Gr) (T := F_Gr) (N := 6) hx hb hts (fun w h => List.mem_cons_of_mem _ (u_Gr w h)) t_Gr o_Gr n_Gr hown hK hP hD hS 0 rfl rfl 4 (by decide) (hts _ (List.mem_cons_of_mem _ tw_63)) (fun _ h9 => h9) rfl hnm rfl (by decide +kernel) rfl rfl (Nat.le_of_ble_eq_true rfl) d_Gr_init_44 (fun H locs hP hD hS => ?_)
  have hP : va_P D cl [(gr, .inr (2, [.ref q1, .ref q3, .ref q5, .ref q7, .ref q9, .int 0])), (q1, .inl (cI, 12, .inl (fun _ => 0))), (q3, .inl (cI, 12, .inl (fun _ => 0))), (q5, .inl (cI, 12, .inl (fun _ => 0))), (q7, .inl (cI, 12, .inl (fun _ => 0)))] H := hP
  have hD : va_D A [(gr, .inr (2, [.ref q1, .ref q3, .ref q5, .ref q7, .ref q9, .int 0])), (q1, .inl (cI, 12, .inl (fun _ => 0))), (q3, .inl (cI, 12, .inl (fun _ => 0))), (q5, .inl (cI, 12, .inl (fun _ => 0))), (q7, .inl (cI, 12, .inl (fun _ => 0)))] := hD
  exact xrv (q1, q3, q5, q7, q9) B d_Gr_init_47 (trivial) (hP.sub (ws' := [(gr, .inr (2, [.ref q1, .ref q3, .ref q5, .ref q7, .ref q9, .int 0])), (q1, .inl (cI, 12, .inl (fun _ => 0))), (q3, .inl (cI, 12, .inl (fun _ => 0))), (q5, .inl (cI, 12, .inl (fun _ => 0)))]) [0, 1, 2, 3] rfl) (hK.sub (tys' := []) [] rfl) (hD.sub (ws' := [(gr, .inr (2, [.ref q1, .ref q3, .ref q5, .ref q7, .ref q9, .int 0])), (q1, .inl (cI, 12, .inl (fun _ => 0))), (q3, .inl (cI, 12, .inl (fun _ => 0))), (q5, .inl (cI, 12, .inl (fun _ => 0)))]) [0, 1, 2, 3] (by decide) rfl) hS (Nat.le_of_ble_eq_true rfl) (Nat.le_of_ble_eq_true rfl)
theorem d_Re_init_0 : decode b_Re_init 0 = .ok (.aload_n 0, 1) := by decide +kernel
theorem d_Re_init_1 : decode b_Re_init 1 = .ok (.invokespecial 3, 3) := by decide +kernel
theorem d_Re_init_4 : decode b_Re_init 4 = .ok (.aload_n 0, 1) := by decide +kernel
theorem d_Re_init_5 : decode b_Re_init 5 = .ok (.bipush (12), 2) := by decide +kernel
theorem d_Re_init_7 : decode b_Re_init 7 = .ok (.newarray .int, 2) := by decide +kernel
theorem d_Re_init_9 : decode b_Re_init 9 = .ok (.putfield 9, 3) := by decide +kernel
theorem d_Re_init_12 : decode b_Re_init 12 = .ok (.aload_n 0, 1) := by decide +kernel
theorem d_Re_init_13 : decode b_Re_init 13 = .ok (.bipush (12), 2) := by decide +kernel
theorem d_Re_init_15 : decode b_Re_init 15 = .ok (.newarray .boolean, 2) := by decide +kernel
theorem d_Re_init_17 : decode b_Re_init 17 = .ok (.putfield 15, 3) := by decide +kernel
theorem d_Re_init_20 : decode b_Re_init 20 = .ok (.return_, 1) := by decide +kernel
set_option maxRecDepth 20000 in
set_option maxHeartbeats 4000000 in
theorem c_Re_init (l : Launch) (D : va_G) (re : Nat) (cI : ClassId) (cZ : ClassId) (sz : Nat)  : xMv l y_Re_init w_Re_init { frames := 1, cells := 2, slots := 24, locals := 13 } D cl [.ref re] sz [(cI, .int), (cZ, .boolean)] [(re, .inr (3, [.null, .null]))] (fun (u : Nat × Nat) => True) (fun u => [(re, .inr (3, [.ref u.1, .ref u.2])), (u.1, .inl (cI, 12, .inl (fun _ => 0))), (u.2, .inl (cZ, 12, .inl (fun _ => 0)))]) (fun _ => []) := by
  refine xMv_of (by decide +kernel) rfl (Nat.le_of_ble_eq_true rfl) ?_
  intro p e s m args below meth c ls A B hAe hA hsz hP hK hD hS hAm hTh hAs hl
  obtain ⟨⟨hx, hb, hml, hown, hts⟩, hret, hlk, hnm, hemp⟩ := id B
  have hl : lv_has ls 1 [(0, .ref re)] := hl
  refine lv_aload_n hx hb d_Re_init_0 rfl (lv_at hl 0 rfl) ?_
  refine W.objInit hx hb hown (hts _ (List.mem_cons_of_mem _ tw_85)) (hts _ (List.mem_cons_of_mem _ tw_23)) (hts _ (List.mem_cons_of_mem _ tw_24)) rfl (by rw [hml]; exact hl.1) rfl d_Re_init_1 (Nat.le_of_ble_eq_true rfl) (Nat.le_of_ble_eq_true rfl) ?_
  refine W.eq (g2 := F0 m 4 ls []) rfl ?_
  refine lv_aload_n hx hb d_Re_init_4 rfl (lv_at hl 0 rfl) ?_
  refine lv_bipush (v := 12) hx hb d_Re_init_5 (by decide) ?_
  refine va_newa (atype := .int) (a0 := (12, .inl (fun _ => 0))) (N' := 12) (ty := .int) hx hb (hts _ (List.mem_cons_of_mem _ tw_47)) rfl hK hP hD hS hA (fun _ => rfl) (by decide) (by decide) (by decide) (Nat.le_of_ble_eq_true rfl) (Nat.le_of_ble_eq_true rfl) d_Re_init_7 (fun q1 cA2 H hK hP hD hS => ?_)
  obtain rfl : cI = cA2 := xsame (by intro C h; cases h) hK 0 2 rfl rfl
  have hK : va_K D cl [(cI, .int), (cZ, .boolean)] s := hK.sub [0, 1] rfl
  have hP : va_P D cl [(re, .inr (3, [.null, .null])), (q1, .inl (cI, 12, .inl (fun _ => 0)))] H := hP
  have hD : va_D A [(re, .inr (3, [.null, .null])), (q1, .inl (cI, 12, .inl (fun _ => 0)))] := hD
  refine va_putF (D := D) (ci := 3) (v := .ref q1) (ty := .array .int) (C := R_Re) (T := F_Re) (N := 2) hx hb hts (fun w h => List.mem_cons_of_mem _ (u_Re w h)) t_Re o_Re n_Re hown hK hP hD hS 0 rfl rfl 0 (by decide) (hts _ (List.mem_cons_of_mem _ tw_86)) (fun _ h9 => h9) rfl hnm rfl (by decide +kernel) rfl rfl (Nat.le_of_ble_eq_true rfl) d_Re_init_9 (fun H locs hP hD hS => ?_)
  have hP : va_P D cl [(re, .inr (3, [.ref q1, .null])), (q1, .inl (cI, 12, .inl (fun _ => 0)))] H := hP
  have hD : va_D A [(re, .inr (3, [.ref q1, .null])), (q1, .inl (cI, 12, .inl (fun _ => 0)))] := hD
  refine lv_aload_n hx hb d_Re_init_12 rfl (lv_at hl 0 rfl) ?_
  refine lv_bipush (v := 12) hx hb d_Re_init_13 (by decide) ?_
  refine va_newa (atype := .boolean) (a0 := (12, .inl (fun _ => 0))) (N' := 12) (ty := .boolean) hx hb (hts _ (List.mem_cons_of_mem _ tw_95)) rfl hK hP hD hS hA (fun _ => rfl) (by decide) (by decide) (by decide) (Nat.le_of_ble_eq_true rfl) (Nat.le_of_ble_eq_true rfl) d_Re_init_15 (fun q3 cA4 H hK hP hD hS => ?_)
  obtain rfl : cZ = cA4 := xsame (by intro C h; cases h) hK 1 2 rfl rfl
  have hK : va_K D cl [(cI, .int), (cZ, .boolean)] s := hK.sub [0, 1] rfl
  have hP : va_P D cl [(re, .inr (3, [.ref q1, .null])), (q1, .inl (cI, 12, .inl (fun _ => 0))), (q3, .inl (cZ, 12, .inl (fun _ => 0)))] H := hP
  have hD : va_D A [(re, .inr (3, [.ref q1, .null])), (q1, .inl (cI, 12, .inl (fun _ => 0))), (q3, .inl (cZ, 12, .inl (fun _ => 0)))] := hD
  refine va_putF (D := D) (ci := 3) (v := .ref q3) (ty := .array .boolean) (C := R_Re) (T := F_Re) (N := 2) hx hb hts (fun w h => List.mem_cons_of_mem _ (u_Re w h)) t_Re o_Re n_Re hown hK hP hD hS 0 rfl rfl 1 (by decide) (hts _ (List.mem_cons_of_mem _ tw_88)) (fun _ h9 => h9) rfl hnm rfl (by decide +kernel) rfl rfl (Nat.le_of_ble_eq_true rfl) d_Re_init_17 (fun H locs hP hD hS => ?_)
  have hP : va_P D cl [(re, .inr (3, [.ref q1, .ref q3])), (q1, .inl (cI, 12, .inl (fun _ => 0))), (q3, .inl (cZ, 12, .inl (fun _ => 0)))] H := hP
  have hD : va_D A [(re, .inr (3, [.ref q1, .ref q3])), (q1, .inl (cI, 12, .inl (fun _ => 0))), (q3, .inl (cZ, 12, .inl (fun _ => 0)))] := hD
  exact xrv (q1, q3) B d_Re_init_20 (trivial) (hP.sub (ws' := [(re, .inr (3, [.ref q1, .ref q3])), (q1, .inl (cI, 12, .inl (fun _ => 0))), (q3, .inl (cZ, 12, .inl (fun _ => 0)))]) [0, 1, 2] rfl) (hK.sub (tys' := []) [] rfl) (hD.sub (ws' := [(re, .inr (3, [.ref q1, .ref q3])), (q1, .inl (cI, 12, .inl (fun _ => 0))), (q3, .inl (cZ, 12, .inl (fun _ => 0)))]) [0, 1, 2] (by decide) rfl) hS (Nat.le_of_ble_eq_true rfl) (Nat.le_of_ble_eq_true rfl)
theorem d_RL_init_0 : decode b_RL_init 0 = .ok (.aload_n 0, 1) := by decide +kernel
theorem d_RL_init_1 : decode b_RL_init 1 = .ok (.invokespecial 5, 3) := by decide +kernel
theorem d_RL_init_4 : decode b_RL_init 4 = .ok (.aload_n 0, 1) := by decide +kernel
theorem d_RL_init_5 : decode b_RL_init 5 = .ok (.sipush (400), 3) := by decide +kernel
theorem d_RL_init_8 : decode b_RL_init 8 = .ok (.newarray .int, 2) := by decide +kernel
theorem d_RL_init_10 : decode b_RL_init 10 = .ok (.putfield 11, 3) := by decide +kernel
theorem d_RL_init_13 : decode b_RL_init 13 = .ok (.aload_n 0, 1) := by decide +kernel
theorem d_RL_init_14 : decode b_RL_init 14 = .ok (.bipush (24), 2) := by decide +kernel
theorem d_RL_init_16 : decode b_RL_init 16 = .ok (.newarray .int, 2) := by decide +kernel
theorem d_RL_init_18 : decode b_RL_init 18 = .ok (.putfield 15, 3) := by decide +kernel
theorem d_RL_init_21 : decode b_RL_init 21 = .ok (.aload_n 0, 1) := by decide +kernel
theorem d_RL_init_22 : decode b_RL_init 22 = .ok (.bipush (24), 2) := by decide +kernel
theorem d_RL_init_24 : decode b_RL_init 24 = .ok (.newarray .int, 2) := by decide +kernel
theorem d_RL_init_26 : decode b_RL_init 26 = .ok (.putfield 18, 3) := by decide +kernel
theorem d_RL_init_29 : decode b_RL_init 29 = .ok (.aload_n 0, 1) := by decide +kernel
theorem d_RL_init_30 : decode b_RL_init 30 = .ok (.getfield 15, 3) := by decide +kernel
theorem d_RL_init_33 : decode b_RL_init 33 = .ok (.iconst (-1), 1) := by decide +kernel
theorem d_RL_init_34 : decode b_RL_init 34 = .ok (.invokestatic 21, 3) := by decide +kernel
theorem d_RL_init_37 : decode b_RL_init 37 = .ok (.return_, 1) := by decide +kernel
set_option maxRecDepth 20000 in
set_option maxHeartbeats 4000000 in
theorem c_RL_init (l : Launch) (D : va_G) (rl : Nat) (cI : ClassId) (sz : Nat)  : xMv l y_RL_init w_RL_init { frames := 1, cells := 3, slots := 448, locals := 30 } D cl [.ref rl] sz [(cI, .int)] [(rl, .inr (4, [.null, .null, .null, .int 0]))] (fun (u : Nat × Nat × Nat) => True) (fun u => [(rl, .inr (4, [.ref u.1, .ref u.2.1, .ref u.2.2, .int 0])), (u.2.1, .inl (cI, 24, .inl (fun _ => (-1))))]) (fun _ => []) := by
  refine xMv_of (by decide +kernel) rfl (Nat.le_of_ble_eq_true rfl) ?_
  intro p e s m args below meth c ls A B hAe hA hsz hP hK hD hS hAm hTh hAs hl
  obtain ⟨⟨hx, hb, hml, hown, hts⟩, hret, hlk, hnm, hemp⟩ := id B
  have hl : lv_has ls 1 [(0, .ref rl)] := hl
  refine lv_aload_n hx hb d_RL_init_0 rfl (lv_at hl 0 rfl) ?_
  refine W.objInit hx hb hown (hts _ (List.mem_cons_of_mem _ tw_101)) (hts _ (List.mem_cons_of_mem _ tw_23)) (hts _ (List.mem_cons_of_mem _ tw_24)) rfl (by rw [hml]; exact hl.1) rfl d_RL_init_1 (Nat.le_of_ble_eq_true rfl) (Nat.le_of_ble_eq_true rfl) ?_
  refine W.eq (g2 := F0 m 4 ls []) rfl ?_
  refine lv_aload_n hx hb d_RL_init_4 rfl (lv_at hl 0 rfl) ?_
  refine lv_sipush (v := 400) hx hb d_RL_init_5 (by decide) ?_
  refine va_newa (atype := .int) (a0 := (400, .inl (fun _ => 0))) (N' := 400) (ty := .int) hx hb (hts _ (List.mem_cons_of_mem _ tw_47)) rfl hK hP hD hS hA (fun _ => rfl) (by decide) (by decide) (by decide) (Nat.le_of_ble_eq_true rfl) (Nat.le_of_ble_eq_true rfl) d_RL_init_8 (fun q1 cA2 H hK hP hD hS => ?_)
  obtain rfl : cI = cA2 := xsame (by intro C h; cases h) hK 0 1 rfl rfl
  have hK : va_K D cl [(cI, .int)] s := hK.sub [0] rfl
  have hP : va_P D cl [(rl, .inr (4, [.null, .null, .null, .int 0])), (q1, .inl (cI, 400, .inl (fun _ => 0)))] H := hP
  have hD : va_D A [(rl, .inr (4, [.null, .null, .null, .int 0])), (q1, .inl (cI, 400, .inl (fun _ => 0)))] := hD
  refine va_putF (D := D) (ci := 4) (v := .ref q1) (ty := .array .int) (C := R_RL) (T := F_RL) (N := 4) hx hb hts (fun w h => List.mem_cons_of_mem _ (u_RL w h)) t_RL o_RL n_RL hown hK hP hD hS 0 rfl rfl 0 (by decide) (hts _ (List.mem_cons_of_mem _ tw_105)) (fun _ h9 => h9) rfl hnm rfl (by decide +kernel) rfl rfl (Nat.le_of_ble_eq_true rfl) d_RL_init_10 (fun H locs hP hD hS => ?_)
  have hP : va_P D cl [(rl, .inr (4, [.ref q1, .null, .null, .int 0])), (q1, .inl (cI, 400, .inl (fun _ => 0)))] H := hP
  have hD : va_D A [(rl, .inr (4, [.ref q1, .null, .null, .int 0])), (q1, .inl (cI, 400, .inl (fun _ => 0)))] := hD
  refine lv_aload_n hx hb d_RL_init_13 rfl (lv_at hl 0 rfl) ?_
  refine lv_bipush (v := 24) hx hb d_RL_init_14 (by decide) ?_
  refine va_newa (atype := .int) (a0 := (24, .inl (fun _ => 0))) (N' := 24) (ty := .int) hx hb (hts _ (List.mem_cons_of_mem _ tw_47)) rfl hK hP hD hS hA (fun _ => rfl) (by decide) (by decide) (by decide) (Nat.le_of_ble_eq_true rfl) (Nat.le_of_ble_eq_true rfl) d_RL_init_16 (fun q3 cA4 H hK hP hD hS => ?_)
  obtain rfl : cI = cA4 := xsame (by intro C h; cases h) hK 0 1 rfl rfl
  have hK : va_K D cl [(cI, .int)] s := hK.sub [0] rfl
  have hP : va_P D cl [(rl, .inr (4, [.ref q1, .null, .null, .int 0])), (q1, .inl (cI, 400, .inl (fun _ => 0))), (q3, .inl (cI, 24, .inl (fun _ => 0)))] H := hP
  have hD : va_D A [(rl, .inr (4, [.ref q1, .null, .null, .int 0])), (q1, .inl (cI, 400, .inl (fun _ => 0))), (q3, .inl (cI, 24, .inl (fun _ => 0)))] := hD
  refine va_putF (D := D) (ci := 4) (v := .ref q3) (ty := .array .int) (C := R_RL) (T := F_RL) (N := 4) hx hb hts (fun w h => List.mem_cons_of_mem _ (u_RL w h)) t_RL o_RL n_RL hown hK hP hD hS 0 rfl rfl 1 (by decide) (hts _ (List.mem_cons_of_mem _ tw_107)) (fun _ h9 => h9) rfl hnm rfl (by decide +kernel) rfl rfl (Nat.le_of_ble_eq_true rfl) d_RL_init_18 (fun H locs hP hD hS => ?_)
  have hP : va_P D cl [(rl, .inr (4, [.ref q1, .ref q3, .null, .int 0])), (q1, .inl (cI, 400, .inl (fun _ => 0))), (q3, .inl (cI, 24, .inl (fun _ => 0)))] H := hP
  have hD : va_D A [(rl, .inr (4, [.ref q1, .ref q3, .null, .int 0])), (q1, .inl (cI, 400, .inl (fun _ => 0))), (q3, .inl (cI, 24, .inl (fun _ => 0)))] := hD
  refine lv_aload_n hx hb d_RL_init_21 rfl (lv_at hl 0 rfl) ?_
  refine lv_bipush (v := 24) hx hb d_RL_init_22 (by decide) ?_
  refine va_newa (atype := .int) (a0 := (24, .inl (fun _ => 0))) (N' := 24) (ty := .int) hx hb (hts _ (List.mem_cons_of_mem _ tw_47)) rfl hK hP hD hS hA (fun _ => rfl) (by decide) (by decide) (by decide) (Nat.le_of_ble_eq_true rfl) (Nat.le_of_ble_eq_true rfl) d_RL_init_24 (fun q5 cA6 H hK hP hD hS => ?_)
  obtain rfl : cI = cA6 := xsame (by intro C h; cases h) hK 0 1 rfl rfl
  have hK : va_K D cl [(cI, .int)] s := hK.sub [0] rfl
  have hP : va_P D cl [(rl, .inr (4, [.ref q1, .ref q3, .null, .int 0])), (q1, .inl (cI, 400, .inl (fun _ => 0))), (q3, .inl (cI, 24, .inl (fun _ => 0))), (q5, .inl (cI, 24, .inl (fun _ => 0)))] H := hP
  have hD : va_D A [(rl, .inr (4, [.ref q1, .ref q3, .null, .int 0])), (q1, .inl (cI, 400, .inl (fun _ => 0))), (q3, .inl (cI, 24, .inl (fun _ => 0))), (q5, .inl (cI, 24, .inl (fun _ => 0)))] := hD
  refine va_putF (D := D) (ci := 4) (v := .ref q5) (ty := .array .int) (C := R_RL) (T := F_RL) (N := 4) hx hb hts (fun w h => List.mem_cons_of_mem _ (u_RL w h)) t_RL o_RL n_RL hown hK hP hD hS 0 rfl rfl 2 (by decide) (hts _ (List.mem_cons_of_mem _ tw_109)) (fun _ h9 => h9) rfl hnm rfl (by decide +kernel) rfl rfl (Nat.le_of_ble_eq_true rfl) d_RL_init_26 (fun H locs hP hD hS => ?_)
  have hP : va_P D cl [(rl, .inr (4, [.ref q1, .ref q3, .ref q5, .int 0])), (q1, .inl (cI, 400, .inl (fun _ => 0))), (q3, .inl (cI, 24, .inl (fun _ => 0))), (q5, .inl (cI, 24, .inl (fun _ => 0)))] H := hP
  have hD : va_D A [(rl, .inr (4, [.ref q1, .ref q3, .ref q5, .int 0])), (q1, .inl (cI, 400, .inl (fun _ => 0))), (q3, .inl (cI, 24, .inl (fun _ => 0))), (q5, .inl (cI, 24, .inl (fun _ => 0)))] := hD
  refine lv_aload_n hx hb d_RL_init_29 rfl (lv_at hl 0 rfl) ?_
  refine va_get (D := D) (ci := 4) (v := .ref q3) (C := R_RL) (T := F_RL) (N := 4) hx hb hts (fun w h => List.mem_cons_of_mem _ (u_RL w h)) hown hK hP 0 rfl rfl 1 (by decide) (hts _ (List.mem_cons_of_mem _ tw_107)) (fun _ h9 => h9) rfl d_RL_init_30 ?_
  refine lv_iconst (v := (-1)) hx hb d_RL_init_33 (by decide) ?_
  have hPc := hP.sub (ws' := [(q3, .inl (cI, 24, .inl (fun _ => 0)))]) [2] rfl
  have hDc := hD.sub (ws' := [(q3, .inl (cI, 24, .inl (fun _ => 0)))]) [2] (by decide) rfl
  have hKc := hK.sub (tys' := [(cI, .int)]) [0] rfl
  refine xgv (wsC := [(q3, .inl (cI, 24, .inl (fun _ => 0)))]) (wr := [(rl, .inr (4, [.ref q1, .ref q3, .ref q5, .int 0])), (q1, .inl (cI, 400, .inl (fun _ => 0))), (q5, .inl (cI, 24, .inl (fun _ => 0)))]) (va_runS (As := [.ref q3, .int (-1)]) (rest := []) ⟨hx, hb, hml, hown, hts⟩ (c_Ar_fill l D q3 cI 24 (fun _ => 0) (-1) _ (by decide)) ⟨(callB_of 2 hts (x_good k_Ar_fill) rfl rfl rfl (hts _ (List.mem_cons_of_mem _ tw_6)) (hts _ (List.mem_cons_of_mem _ tw_102)) (by decide +kernel) ⟨Nat.le_of_ble_eq_true rfl, Nat.le_of_ble_eq_true rfl⟩), (hts _ (List.mem_cons_of_mem _ tw_103))⟩ (xP_S hPc hKc hDc hAm hTh hAs hS) rfl rfl hl.1 rfl (lv_room (Nat.le_of_ble_eq_true rfl)) d_RL_init_34 ⟨Nat.le_of_ble_eq_true rfl, Nat.le_of_ble_eq_true rfl⟩) hP hD hK hS hA [2] [0, 1, 3] rfl rfl (by decide) (by decide) (fun _ H locs _ hP hD hK hS => ?_)
  have hK : va_K D cl [(cI, .int)] s := hK
  have hP : va_P D cl [(rl, .inr (4, [.ref q1, .ref q3, .ref q5, .int 0])), (q1, .inl (cI, 400, .inl (fun _ => 0))), (q5, .inl (cI, 24, .inl (fun _ => 0))), (q3, .inl (cI, 24, .inl (fun _ => (-1))))] H := hP
  have hD : va_D A [(rl, .inr (4, [.ref q1, .ref q3, .ref q5, .int 0])), (q1, .inl (cI, 400, .inl (fun _ => 0))), (q5, .inl (cI, 24, .inl (fun _ => 0))), (q3, .inl (cI, 24, .inl (fun _ => (-1))))] := hD
  exact xrv (q1, q3, q5) B d_RL_init_37 (trivial) (hP.sub (ws' := [(rl, .inr (4, [.ref q1, .ref q3, .ref q5, .int 0])), (q3, .inl (cI, 24, .inl (fun _ => (-1))))]) [0, 3] rfl) (hK.sub (tys' := []) [] rfl) (hD.sub (ws' := [(rl, .inr (4, [.ref q1, .ref q3, .ref q5, .int 0])), (q3, .inl (cI, 24, .inl (fun _ => (-1))))]) [0, 3] (by decide) rfl) hS (Nat.le_of_ble_eq_true rfl) (Nat.le_of_ble_eq_true rfl)
theorem d_FB_init_0 : decode b_FB_init 0 = .ok (.aload_n 0, 1) := by decide +kernel
theorem d_FB_init_1 : decode b_FB_init 1 = .ok (.invokespecial 3, 3) := by decide +kernel
theorem d_FB_init_4 : decode b_FB_init 4 = .ok (.aload_n 0, 1) := by decide +kernel
theorem d_FB_init_5 : decode b_FB_init 5 = .ok (.new 9, 3) := by decide +kernel
theorem d_FB_init_8 : decode b_FB_init 8 = .ok (.dup, 1) := by decide +kernel
theorem d_FB_init_9 : decode b_FB_init 9 = .ok (.invokespecial 11, 3) := by decide +kernel
theorem d_FB_init_12 : decode b_FB_init 12 = .ok (.putfield 12, 3) := by decide +kernel
theorem d_FB_init_15 : decode b_FB_init 15 = .ok (.aload_n 0, 1) := by decide +kernel
theorem d_FB_init_16 : decode b_FB_init 16 = .ok (.new 16, 3) := by decide +kernel
theorem d_FB_init_19 : decode b_FB_init 19 = .ok (.dup, 1) := by decide +kernel
theorem d_FB_init_20 : decode b_FB_init 20 = .ok (.invokespecial 18, 3) := by decide +kernel
theorem d_FB_init_23 : decode b_FB_init 23 = .ok (.putfield 19, 3) := by decide +kernel
theorem d_FB_init_26 : decode b_FB_init 26 = .ok (.aload_n 0, 1) := by decide +kernel
theorem d_FB_init_27 : decode b_FB_init 27 = .ok (.new 23, 3) := by decide +kernel
theorem d_FB_init_30 : decode b_FB_init 30 = .ok (.dup, 1) := by decide +kernel
theorem d_FB_init_31 : decode b_FB_init 31 = .ok (.invokespecial 25, 3) := by decide +kernel
theorem d_FB_init_34 : decode b_FB_init 34 = .ok (.putfield 26, 3) := by decide +kernel
theorem d_FB_init_37 : decode b_FB_init 37 = .ok (.aload_n 0, 1) := by decide +kernel
theorem d_FB_init_38 : decode b_FB_init 38 = .ok (.new 30, 3) := by decide +kernel
theorem d_FB_init_41 : decode b_FB_init 41 = .ok (.dup, 1) := by decide +kernel
theorem d_FB_init_42 : decode b_FB_init 42 = .ok (.invokespecial 32, 3) := by decide +kernel
theorem d_FB_init_45 : decode b_FB_init 45 = .ok (.putfield 33, 3) := by decide +kernel
theorem d_FB_init_48 : decode b_FB_init 48 = .ok (.aload_n 0, 1) := by decide +kernel
theorem d_FB_init_49 : decode b_FB_init 49 = .ok (.new 37, 3) := by decide +kernel
theorem d_FB_init_52 : decode b_FB_init 52 = .ok (.dup, 1) := by decide +kernel
theorem d_FB_init_53 : decode b_FB_init 53 = .ok (.invokespecial 39, 3) := by decide +kernel
theorem d_FB_init_56 : decode b_FB_init 56 = .ok (.putfield 40, 3) := by decide +kernel
theorem d_FB_init_59 : decode b_FB_init 59 = .ok (.aload_n 0, 1) := by decide +kernel
theorem d_FB_init_60 : decode b_FB_init 60 = .ok (.iconst (3), 1) := by decide +kernel
theorem d_FB_init_61 : decode b_FB_init 61 = .ok (.newarray .int, 2) := by decide +kernel
theorem d_FB_init_63 : decode b_FB_init 63 = .ok (.putfield 44, 3) := by decide +kernel
theorem d_FB_init_66 : decode b_FB_init 66 = .ok (.aload_n 0, 1) := by decide +kernel
theorem d_FB_init_67 : decode b_FB_init 67 = .ok (.getfield 44, 3) := by decide +kernel
theorem d_FB_init_70 : decode b_FB_init 70 = .ok (.iconst (1), 1) := by decide +kernel
theorem d_FB_init_71 : decode b_FB_init 71 = .ok (.invokestatic 48, 3) := by decide +kernel
theorem d_FB_init_74 : decode b_FB_init 74 = .ok (.return_, 1) := by decide +kernel
set_option maxRecDepth 20000 in
set_option maxHeartbeats 4000000 in
theorem c_FB_init (l : Launch) (D : va_G) (fb : Nat) (cI : ClassId) (cZ : ClassId) (sz : Nat)  : xMv l y_FB_init w_FB_init { frames := 2, cells := 23, slots := 655, locals := 60 } D cl [.ref fb] sz [(cI, .int), (cZ, .boolean)] [(fb, .inr (5, [.null, .null, .null, .null, .null, .null]))] (fun (u : Nat × Nat × Nat × Nat × Nat × Nat × Nat × Nat × Nat × Nat × Nat × Nat × Nat × Nat × Nat × Nat × Nat × Nat × Nat) => True) (fun u => [(fb, .inr (5, [.ref u.1, .ref u.2.1, .ref u.2.2.1, .ref u.2.2.2.1, .ref u.2.2.2.2.1, .ref u.2.2.2.2.2.1])), (u.1, .inr (1, [.ref u.2.2.2.2.2.2.1, .ref u.2.2.2.2.2.2.2.1, .int 0, .int 0])), (u.2.1, .inr (2, [.ref u.2.2.2.2.2.2.2.2.1, .ref u.2.2.2.2.2.2.2.2.2.1, .ref u.2.2.2.2.2.2.2.2.2.2.1, .ref u.2.2.2.2.2.2.2.2.2.2.2.2.2.2.2.1, .ref u.2.2.2.2.2.2.2.2.2.2.2.2.2.2.2.2.1, .int 0])), (u.2.2.1, .inr (3, [.ref u.2.2.2.2.2.2.2.2.2.2.2.1, .ref u.2.2.2.2.2.2.2.2.2.2.2.2.1])), (u.2.2.2.1, .inr (4, [.ref u.2.2.2.2.2.2.2.2.2.2.2.2.2.2.2.2.2.1, .ref u.2.2.2.2.2.2.2.2.2.2.2.2.2.1, .ref u.2.2.2.2.2.2.2.2.2.2.2.2.2.2.2.2.2.2, .int 0])), (u.2.2.2.2.1, .inr (0, [.ref u.2.2.2.2.2.2.2.2.2.2.2.2.2.2.1, .int 0, .int 0, .int 0])), (u.2.2.2.2.2.1, .inl (cI, 3, .inl (fun _ => 1))), (u.2.2.2.2.2.2.1, .inl (cI, 24, .inl (fun _ => 0))), (u.2.2.2.2.2.2.2.1, .inl (cI, 24, .inl (fun _ => 0))), (u.2.2.2.2.2.2.2.2.1, .inl (cI, 12, .inl (fun _ => 0))), (u.2.2.2.2.2.2.2.2.2.1, .inl (cI, 12, .inl (fun _ => 0))), (u.2.2.2.2.2.2.2.2.2.2.1, .inl (cI, 12, .inl (fun _ => 0))), (u.2.2.2.2.2.2.2.2.2.2.2.1, .inl (cI, 12, .inl (fun _ => 0))), (u.2.2.2.2.2.2.2.2.2.2.2.2.1, .inl (cZ, 12, .inl (fun _ => 0))), (u.2.2.2.2.2.2.2.2.2.2.2.2.2.1, .inl (cI, 24, .inl (fun _ => (-1)))), (u.2.2.2.2.2.2.2.2.2.2.2.2.2.2.1, .inl (cI, 12, .inl (fun _ => 0)))]) (fun _ => []) := by
  refine xMv_of (by decide +kernel) rfl (Nat.le_of_ble_eq_true rfl) ?_
  intro p e s m args below meth c ls A B hAe hA hsz hP hK hD hS hAm hTh hAs hl
  obtain ⟨⟨hx, hb, hml, hown, hts⟩, hret, hlk, hnm, hemp⟩ := id B
  have hl : lv_has ls 1 [(0, .ref fb)] := hl
  refine lv_aload_n hx hb d_FB_init_0 rfl (lv_at hl 0 rfl) ?_
  refine W.objInit hx hb hown (hts _ (List.mem_cons_of_mem _ tw_22)) (hts _ (List.mem_cons_of_mem _ tw_23)) (hts _ (List.mem_cons_of_mem _ tw_24)) rfl (by rw [hml]; exact hl.1) rfl d_FB_init_1 (Nat.le_of_ble_eq_true rfl) (Nat.le_of_ble_eq_true rfl) ?_
  refine W.eq (g2 := F0 m 4 ls []) rfl ?_
  refine lv_aload_n hx hb d_FB_init_4 rfl (lv_at hl 0 rfl) ?_
  refine va_new (ci := 1) (fs := [.null, .null, .int 0, .int 0]) (C := R_Di) (T := F_Di) (N := 4) hx hb hts (fun w h => List.mem_cons_of_mem _ (u_Di w h)) t_Di o_Di hown (hts _ (List.mem_cons_of_mem _ tw_25)) (hts _ (List.mem_cons_of_mem _ tw_26)) (hts _ (List.mem_cons_of_mem _ tw_2)) hK hP hD hS hA rfl (fun j hj => by rcases (show j = 0 ∨ j = 1 ∨ j = 2 ∨ j = 3 by omega) with rfl | rfl | rfl | rfl <;> rfl) (Nat.le_of_ble_eq_true rfl) (Nat.le_of_ble_eq_true rfl) d_FB_init_5 (fun q1 H hP hD hS => ?_)
  have hP : va_P D cl [(fb, .inr (5, [.null, .null, .null, .null, .null, .null])), (q1, .inr (1, [.null, .null, .int 0, .int 0]))] H := hP
  have hD : va_D A [(fb, .inr (5, [.null, .null, .null, .null, .null, .null])), (q1, .inr (1, [.null, .null, .int 0, .int 0]))] := hD
  refine lv_dup hx hb d_FB_init_8 rfl ?_
  have hPc := hP.sub (ws' := [(q1, .inr (1, [.null, .null, .int 0, .int 0]))]) [1] rfl
  have hDc := hD.sub (ws' := [(q1, .inr (1, [.null, .null, .int 0, .int 0]))]) [1] (by decide) rfl
  have hKc := hK.sub (tys' := [(cI, .int)]) [0] rfl
  refine xgv (wsC := [(q1, .inr (1, [.null, .null, .int 0, .int 0]))]) (wr := [(fb, .inr (5, [.null, .null, .null, .null, .null, .null]))]) (va_runIN (As := []) (rest := [.ref q1, .ref fb]) ⟨hx, hb, hml, hown, hts⟩ (c_Di_init l  D q1 cI _ ) ⟨(va_cnB 0 hts (x_good k_Di_init) rfl rfl rfl (hAm.1 _ (List.mem_of_getElem? (i := 0) rfl)) (hts _ (List.mem_cons_of_mem _ tw_2)) (by decide +kernel) ⟨Nat.le_of_ble_eq_true rfl, Nat.le_of_ble_eq_true rfl⟩), rfl, (hts _ (List.mem_cons_of_mem _ tw_28))⟩ (xP_S hPc hKc hDc hAm hTh hAs hS) rfl rfl hl.1 rfl (lv_room (Nat.le_of_ble_eq_true rfl)) d_FB_init_9 ⟨Nat.le_of_ble_eq_true rfl, Nat.le_of_ble_eq_true rfl⟩) hP hD hK hS hA [1] [0] rfl rfl (by decide) (by decide) (fun ⟨q2, q3⟩ H locs _ hP hD hK hS => ?_)
  have hK : va_K D cl [(cI, .int), (cZ, .boolean)] s := hK
  have hP : va_P D cl [(fb, .inr (5, [.null, .null, .null, .null, .null, .null])), (q1, .inr (1, [.ref q2, .ref q3, .int 0, .int 0])), (q2, .inl (cI, 24, .inl (fun _ => 0))), (q3, .inl (cI, 24, .inl (fun _ => 0)))] H := hP
  have hD : va_D A [(fb, .inr (5, [.null, .null, .null, .null, .null, .null])), (q1, .inr (1, [.ref q2, .ref q3, .int 0, .int 0])), (q2, .inl (cI, 24, .inl (fun _ => 0))), (q3, .inl (cI, 24, .inl (fun _ => 0)))] := hD
  refine va_putF (D := D) (ci := 5) (v := .ref q1) (ty := .object "FileBuilder$Disk") (C := R_FB) (T := F_FB) (N := 6) hx hb hts (fun w h => List.mem_cons_of_mem _ (u_FB w h)) t_FB o_FB n_FB hown hK hP hD hS 0 rfl rfl 0 (by decide) (hts _ (List.mem_cons_of_mem _ tw_146)) (fun _ h9 => h9) rfl hnm rfl (by decide +kernel) rfl rfl (Nat.le_of_ble_eq_true rfl) d_FB_init_12 (fun H locs hP hD hS => ?_)
  have hP : va_P D cl [(fb, .inr (5, [.ref q1, .null, .null, .null, .null, .null])), (q1, .inr (1, [.ref q2, .ref q3, .int 0, .int 0])), (q2, .inl (cI, 24, .inl (fun _ => 0))), (q3, .inl (cI, 24, .inl (fun _ => 0)))] H := hP
  have hD : va_D A [(fb, .inr (5, [.ref q1, .null, .null, .null, .null, .null])), (q1, .inr (1, [.ref q2, .ref q3, .int 0, .int 0])), (q2, .inl (cI, 24, .inl (fun _ => 0))), (q3, .inl (cI, 24, .inl (fun _ => 0)))] := hD
  refine lv_aload_n hx hb d_FB_init_15 rfl (lv_at hl 0 rfl) ?_
  refine va_new (ci := 2) (fs := [.null, .null, .null, .null, .null, .int 0]) (C := R_Gr) (T := F_Gr) (N := 6) hx hb hts (fun w h => List.mem_cons_of_mem _ (u_Gr w h)) t_Gr o_Gr hown (hts _ (List.mem_cons_of_mem _ tw_48)) (hts _ (List.mem_cons_of_mem _ tw_49)) (hts _ (List.mem_cons_of_mem _ tw_3)) hK hP hD hS hA rfl (fun j hj => by rcases (show j = 0 ∨ j = 1 ∨ j = 2 ∨ j = 3 ∨ j = 4 ∨ j = 5 by omega) with rfl | rfl | rfl | rfl | rfl | rfl <;> rfl) (Nat.le_of_ble_eq_true rfl) (Nat.le_of_ble_eq_true rfl) d_FB_init_16 (fun q4 H hP hD hS => ?_)
  have hP : va_P D cl [(fb, .inr (5, [.ref q1, .null, .null, .null, .null, .null])), (q1, .inr (1, [.ref q2, .ref q3, .int 0, .int 0])), (q2, .inl (cI, 24, .inl (fun _ => 0))), (q3, .inl (cI, 24, .inl (fun _ => 0))), (q4, .inr (2, [.null, .null, .null, .null, .null, .int 0]))] H := hP
  have hD : va_D A [(fb, .inr (5, [.ref q1, .null, .null, .null, .null, .null])), (q1, .inr (1, [.ref q2, .ref q3, .int 0, .int 0])), (q2, .inl (cI, 24, .inl (fun _ => 0))), (q3, .inl (cI, 24, .inl (fun _ => 0))), (q4, .inr (2, [.null, .null, .null, .null, .null, .int 0]))] := hD
  refine lv_dup hx hb d_FB_init_19 rfl ?_
  have hPc := hP.sub (ws' := [(q4, .inr (2, [.null, .null, .null, .null, .null, .int 0]))]) [4] rfl
  have hDc := hD.sub (ws' := [(q4, .inr (2, [.null, .null, .null, .null, .null, .int 0]))]) [4] (by decide) rfl
  have hKc := hK.sub (tys' := [(cI, .int)]) [0] rfl
  refine xgv (wsC := [(q4, .inr (2, [.null, .null, .null, .null, .null, .int 0]))]) (wr := [(fb, .inr (5, [.ref q1, .null, .null, .null, .null, .null])), (q1, .inr (1, [.ref q2, .ref q3, .int 0, .int 0])), (q2, .inl (cI, 24, .inl (fun _ => 0))), (q3, .inl (cI, 24, .inl (fun _ => 0)))]) (va_runIN (As := []) (rest := [.ref q4, .ref fb]) ⟨hx, hb, hml, hown, hts⟩ (c_Gr_init l  D q4 cI _ ) ⟨(va_cnB 0 hts (x_good k_Gr_init) rfl rfl rfl (hAm.1 _ (List.mem_of_getElem? (i := 4) rfl)) (hts _ (List.mem_cons_of_mem _ tw_3)) (by decide +kernel) ⟨Nat.le_of_ble_eq_true rfl, Nat.le_of_ble_eq_true rfl⟩), rfl, (hts _ (List.mem_cons_of_mem _ tw_51))⟩ (xP_S hPc hKc hDc hAm hTh hAs hS) rfl rfl hl.1 rfl (lv_room (Nat.le_of_ble_eq_true rfl)) d_FB_init_20 ⟨Nat.le_of_ble_eq_true rfl, Nat.le_of_ble_eq_true rfl⟩) hP hD hK hS hA [4] [0, 1, 2, 3] rfl rfl (by decide) (by decide) (fun ⟨q5, q6, q7, q8, q9⟩ H locs _ hP hD hK hS => ?_)
  have hK : va_K D cl [(cI, .int), (cZ, .boolean)] s := hK
  have hP : va_P D cl [(fb, .inr (5, [.ref q1, .null, .null, .null, .null, .null])), (q1, .inr (1, [.ref q2, .ref q3, .int 0, .int 0])), (q2, .inl (cI, 24, .inl (fun _ => 0))), (q3, .inl (cI, 24, .inl (fun _ => 0))), (q4, .inr (2, [.ref q5, .ref q6, .ref q7, .ref q8, .ref q9, .int 0])), (q5, .inl (cI, 12, .inl (fun _ => 0))), (q6, .inl (cI, 12, .inl (fun _ => 0))), (q7, .inl (cI, 12, .inl (fun _ => 0)))] H := hP
  have hD : va_D A [(fb, .inr (5, [.ref q1, .null, .null, .null, .null, .null])), (q1, .inr (1, [.ref q2, .ref q3, .int 0, .int 0])), (q2, .inl (cI, 24, .inl (fun _ => 0))), (q3, .inl (cI, 24, .inl (fun _ => 0))), (q4, .inr (2, [.ref q5, .ref q6, .ref q7, .ref q8, .ref q9, .int 0])), (q5, .inl (cI, 12, .inl (fun _ => 0))), (q6, .inl (cI, 12, .inl (fun _ => 0))), (q7, .inl (cI, 12, .inl (fun _ => 0)))] := hD
  refine va_putF (D := D) (ci := 5) (v := .ref q4) (ty := .object "FileBuilder$Graph") (C := R_FB) (T := F_FB) (N := 6) hx hb hts (fun w h => List.mem_cons_of_mem _ (u_FB w h)) t_FB o_FB n_FB hown hK hP hD hS 0 rfl rfl 1 (by decide) (hts _ (List.mem_cons_of_mem _ tw_147)) (fun _ h9 => h9) rfl hnm rfl (by decide +kernel) rfl rfl (Nat.le_of_ble_eq_true rfl) d_FB_init_23 (fun H locs hP hD hS => ?_)
  have hP : va_P D cl [(fb, .inr (5, [.ref q1, .ref q4, .null, .null, .null, .null])), (q1, .inr (1, [.ref q2, .ref q3, .int 0, .int 0])), (q2, .inl (cI, 24, .inl (fun _ => 0))), (q3, .inl (cI, 24, .inl (fun _ => 0))), (q4, .inr (2, [.ref q5, .ref q6, .ref q7, .ref q8, .ref q9, .int 0])), (q5, .inl (cI, 12, .inl (fun _ => 0))), (q6, .inl (cI, 12, .inl (fun _ => 0))), (q7, .inl (cI, 12, .inl (fun _ => 0)))] H := hP
  have hD : va_D A [(fb, .inr (5, [.ref q1, .ref q4, .null, .null, .null, .null])), (q1, .inr (1, [.ref q2, .ref q3, .int 0, .int 0])), (q2, .inl (cI, 24, .inl (fun _ => 0))), (q3, .inl (cI, 24, .inl (fun _ => 0))), (q4, .inr (2, [.ref q5, .ref q6, .ref q7, .ref q8, .ref q9, .int 0])), (q5, .inl (cI, 12, .inl (fun _ => 0))), (q6, .inl (cI, 12, .inl (fun _ => 0))), (q7, .inl (cI, 12, .inl (fun _ => 0)))] := hD
  refine lv_aload_n hx hb d_FB_init_26 rfl (lv_at hl 0 rfl) ?_
  refine va_new (ci := 3) (fs := [.null, .null]) (C := R_Re) (T := F_Re) (N := 2) hx hb hts (fun w h => List.mem_cons_of_mem _ (u_Re w h)) t_Re o_Re hown (hts _ (List.mem_cons_of_mem _ tw_80)) (hts _ (List.mem_cons_of_mem _ tw_81)) (hts _ (List.mem_cons_of_mem _ tw_4)) hK hP hD hS hA rfl (fun j hj => by rcases (show j = 0 ∨ j = 1 by omega) with rfl | rfl <;> rfl) (Nat.le_of_ble_eq_true rfl) (Nat.le_of_ble_eq_true rfl) d_FB_init_27 (fun q10 H hP hD hS => ?_)
  have hP : va_P D cl [(fb, .inr (5, [.ref q1, .ref q4, .null, .null, .null, .null])), (q1, .inr (1, [.ref q2, .ref q3, .int 0, .int 0])), (q2, .inl (cI, 24, .inl (fun _ => 0))), (q3, .inl (cI, 24, .inl (fun _ => 0))), (q4, .inr (2, [.ref q5, .ref q6, .ref q7, .ref q8, .ref q9, .int 0])), (q5, .inl (cI, 12, .inl (fun _ => 0))), (q6, .inl (cI, 12, .inl (fun _ => 0))), (q7, .inl (cI, 12, .inl (fun _ => 0))), (q10, .inr (3, [.null, .null]))] H := hP
  have hD : va_D A [(fb, .inr (5, [.ref q1, .ref q4, .null, .null, .null, .null])), (q1, .inr (1, [.ref q2, .ref q3, .int 0, .int 0])), (q2, .inl (cI, 24, .inl (fun _ => 0))), (q3, .inl (cI, 24, .inl (fun _ => 0))), (q4, .inr (2, [.ref q5, .ref q6, .ref q7, .ref q8, .ref q9, .int 0])), (q5, .inl (cI, 12, .inl (fun _ => 0))), (q6, .inl (cI, 12, .inl (fun _ => 0))), (q7, .inl (cI, 12, .inl (fun _ => 0))), (q10, .inr (3, [.null, .null]))] := hD
  refine lv_dup hx hb d_FB_init_30 rfl ?_
  have hPc := hP.sub (ws' := [(q10, .inr (3, [.null, .null]))]) [8] rfl
  have hDc := hD.sub (ws' := [(q10, .inr (3, [.null, .null]))]) [8] (by decide) rfl
  have hKc := hK.sub (tys' := [(cI, .int), (cZ, .boolean)]) [0, 1] rfl
  refine xgv (wsC := [(q10, .inr (3, [.null, .null]))]) (wr := [(fb, .inr (5, [.ref q1, .ref q4, .null, .null, .null, .null])), (q1, .inr (1, [.ref q2, .ref q3, .int 0, .int 0])), (q2, .inl (cI, 24, .inl (fun _ => 0))), (q3, .inl (cI, 24, .inl (fun _ => 0))), (q4, .inr (2, [.ref q5, .ref q6, .ref q7, .ref q8, .ref q9, .int 0])), (q5, .inl (cI, 12, .inl (fun _ => 0))), (q6, .inl (cI, 12, .inl (fun _ => 0))), (q7, .inl (cI, 12, .inl (fun _ => 0)))]) (va_runIN (As := []) (rest := [.ref q10, .ref fb]) ⟨hx, hb, hml, hown, hts⟩ (c_Re_init l  D q10 cI cZ _ ) ⟨(va_cnB 0 hts (x_good k_Re_init) rfl rfl rfl (hAm.1 _ (List.mem_of_getElem? (i := 10) rfl)) (hts _ (List.mem_cons_of_mem _ tw_4)) (by decide +kernel) ⟨Nat.le_of_ble_eq_true rfl, Nat.le_of_ble_eq_true rfl⟩), rfl, (hts _ (List.mem_cons_of_mem _ tw_83))⟩ (xP_S hPc hKc hDc hAm hTh hAs hS) rfl rfl hl.1 rfl (lv_room (Nat.le_of_ble_eq_true rfl)) d_FB_init_31 ⟨Nat.le_of_ble_eq_true rfl, Nat.le_of_ble_eq_true rfl⟩) hP hD hK hS hA [8] [0, 1, 2, 3, 4, 5, 6, 7] rfl rfl (by decide) (by decide) (fun ⟨q11, q12⟩ H locs _ hP hD hK hS => ?_)
  have hK : va_K D cl [(cI, .int), (cZ, .boolean)] s := hK
  have hP : va_P D cl [(fb, .inr (5, [.ref q1, .ref q4, .null, .null, .null, .null])), (q1, .inr (1, [.ref q2, .ref q3, .int 0, .int 0])), (q2, .inl (cI, 24, .inl (fun _ => 0))), (q3, .inl (cI, 24, .inl (fun _ => 0))), (q4, .inr (2, [.ref q5, .ref q6, .ref q7, .ref q8, .ref q9, .int 0])), (q5, .inl (cI, 12, .inl (fun _ => 0))), (q6, .inl (cI, 12, .inl (fun _ => 0))), (q7, .inl (cI, 12, .inl (fun _ => 0))), (q10, .inr (3, [.ref q11, .ref q12])), (q11, .inl (cI, 12, .inl (fun _ => 0))), (q12, .inl (cZ, 12, .inl (fun _ => 0)))] H := hP
  have hD : va_D A [(fb, .inr (5, [.ref q1, .ref q4, .null, .null, .null, .null])), (q1, .inr (1, [.ref q2, .ref q3, .int 0, .int 0])), (q2, .inl (cI, 24, .inl (fun _ => 0))), (q3, .inl (cI, 24, .inl (fun _ => 0))), (q4, .inr (2, [.ref q5, .ref q6, .ref q7, .ref q8, .ref q9, .int 0])), (q5, .inl (cI, 12, .inl (fun _ => 0))), (q6, .inl (cI, 12, .inl (fun _ => 0))), (q7, .inl (cI, 12, .inl (fun _ => 0))), (q10, .inr (3, [.ref q11, .ref q12])), (q11, .inl (cI, 12, .inl (fun _ => 0))), (q12, .inl (cZ, 12, .inl (fun _ => 0)))] := hD
  refine va_putF (D := D) (ci := 5) (v := .ref q10) (ty := .object "FileBuilder$Readings") (C := R_FB) (T := F_FB) (N := 6) hx hb hts (fun w h => List.mem_cons_of_mem _ (u_FB w h)) t_FB o_FB n_FB hown hK hP hD hS 0 rfl rfl 2 (by decide) (hts _ (List.mem_cons_of_mem _ tw_148)) (fun _ h9 => h9) rfl hnm rfl (by decide +kernel) rfl rfl (Nat.le_of_ble_eq_true rfl) d_FB_init_34 (fun H locs hP hD hS => ?_)
  have hP : va_P D cl [(fb, .inr (5, [.ref q1, .ref q4, .ref q10, .null, .null, .null])), (q1, .inr (1, [.ref q2, .ref q3, .int 0, .int 0])), (q2, .inl (cI, 24, .inl (fun _ => 0))), (q3, .inl (cI, 24, .inl (fun _ => 0))), (q4, .inr (2, [.ref q5, .ref q6, .ref q7, .ref q8, .ref q9, .int 0])), (q5, .inl (cI, 12, .inl (fun _ => 0))), (q6, .inl (cI, 12, .inl (fun _ => 0))), (q7, .inl (cI, 12, .inl (fun _ => 0))), (q10, .inr (3, [.ref q11, .ref q12])), (q11, .inl (cI, 12, .inl (fun _ => 0))), (q12, .inl (cZ, 12, .inl (fun _ => 0)))] H := hP
  have hD : va_D A [(fb, .inr (5, [.ref q1, .ref q4, .ref q10, .null, .null, .null])), (q1, .inr (1, [.ref q2, .ref q3, .int 0, .int 0])), (q2, .inl (cI, 24, .inl (fun _ => 0))), (q3, .inl (cI, 24, .inl (fun _ => 0))), (q4, .inr (2, [.ref q5, .ref q6, .ref q7, .ref q8, .ref q9, .int 0])), (q5, .inl (cI, 12, .inl (fun _ => 0))), (q6, .inl (cI, 12, .inl (fun _ => 0))), (q7, .inl (cI, 12, .inl (fun _ => 0))), (q10, .inr (3, [.ref q11, .ref q12])), (q11, .inl (cI, 12, .inl (fun _ => 0))), (q12, .inl (cZ, 12, .inl (fun _ => 0)))] := hD
  refine lv_aload_n hx hb d_FB_init_37 rfl (lv_at hl 0 rfl) ?_
  refine va_new (ci := 4) (fs := [.null, .null, .null, .int 0]) (C := R_RL) (T := F_RL) (N := 4) hx hb hts (fun w h => List.mem_cons_of_mem _ (u_RL w h)) t_RL o_RL hown (hts _ (List.mem_cons_of_mem _ tw_96)) (hts _ (List.mem_cons_of_mem _ tw_97)) (hts _ (List.mem_cons_of_mem _ tw_5)) hK hP hD hS hA rfl (fun j hj => by rcases (show j = 0 ∨ j = 1 ∨ j = 2 ∨ j = 3 by omega) with rfl | rfl | rfl | rfl <;> rfl) (Nat.le_of_ble_eq_true rfl) (Nat.le_of_ble_eq_true rfl) d_FB_init_38 (fun q13 H hP hD hS => ?_)
  have hP : va_P D cl [(fb, .inr (5, [.ref q1, .ref q4, .ref q10, .null, .null, .null])), (q1, .inr (1, [.ref q2, .ref q3, .int 0, .int 0])), (q2, .inl (cI, 24, .inl (fun _ => 0))), (q3, .inl (cI, 24, .inl (fun _ => 0))), (q4, .inr (2, [.ref q5, .ref q6, .ref q7, .ref q8, .ref q9, .int 0])), (q5, .inl (cI, 12, .inl (fun _ => 0))), (q6, .inl (cI, 12, .inl (fun _ => 0))), (q7, .inl (cI, 12, .inl (fun _ => 0))), (q10, .inr (3, [.ref q11, .ref q12])), (q11, .inl (cI, 12, .inl (fun _ => 0))), (q12, .inl (cZ, 12, .inl (fun _ => 0))), (q13, .inr (4, [.null, .null, .null, .int 0]))] H := hP
  have hD : va_D A [(fb, .inr (5, [.ref q1, .ref q4, .ref q10, .null, .null, .null])), (q1, .inr (1, [.ref q2, .ref q3, .int 0, .int 0])), (q2, .inl (cI, 24, .inl (fun _ => 0))), (q3, .inl (cI, 24, .inl (fun _ => 0))), (q4, .inr (2, [.ref q5, .ref q6, .ref q7, .ref q8, .ref q9, .int 0])), (q5, .inl (cI, 12, .inl (fun _ => 0))), (q6, .inl (cI, 12, .inl (fun _ => 0))), (q7, .inl (cI, 12, .inl (fun _ => 0))), (q10, .inr (3, [.ref q11, .ref q12])), (q11, .inl (cI, 12, .inl (fun _ => 0))), (q12, .inl (cZ, 12, .inl (fun _ => 0))), (q13, .inr (4, [.null, .null, .null, .int 0]))] := hD
  refine lv_dup hx hb d_FB_init_41 rfl ?_
  have hPc := hP.sub (ws' := [(q13, .inr (4, [.null, .null, .null, .int 0]))]) [11] rfl
  have hDc := hD.sub (ws' := [(q13, .inr (4, [.null, .null, .null, .int 0]))]) [11] (by decide) rfl
  have hKc := hK.sub (tys' := [(cI, .int)]) [0] rfl
  refine xgv (wsC := [(q13, .inr (4, [.null, .null, .null, .int 0]))]) (wr := [(fb, .inr (5, [.ref q1, .ref q4, .ref q10, .null, .null, .null])), (q1, .inr (1, [.ref q2, .ref q3, .int 0, .int 0])), (q2, .inl (cI, 24, .inl (fun _ => 0))), (q3, .inl (cI, 24, .inl (fun _ => 0))), (q4, .inr (2, [.ref q5, .ref q6, .ref q7, .ref q8, .ref q9, .int 0])), (q5, .inl (cI, 12, .inl (fun _ => 0))), (q6, .inl (cI, 12, .inl (fun _ => 0))), (q7, .inl (cI, 12, .inl (fun _ => 0))), (q10, .inr (3, [.ref q11, .ref q12])), (q11, .inl (cI, 12, .inl (fun _ => 0))), (q12, .inl (cZ, 12, .inl (fun _ => 0)))]) (va_runIN (As := []) (rest := [.ref q13, .ref fb]) ⟨hx, hb, hml, hown, hts⟩ (c_RL_init l  D q13 cI _ ) ⟨(va_cnB 0 hts (x_good k_RL_init) rfl rfl rfl (hAm.1 _ (List.mem_of_getElem? (i := 13) rfl)) (hts _ (List.mem_cons_of_mem _ tw_5)) (by decide +kernel) ⟨Nat.le_of_ble_eq_true rfl, Nat.le_of_ble_eq_true rfl⟩), rfl, (hts _ (List.mem_cons_of_mem _ tw_99))⟩ (xP_S hPc hKc hDc hAm hTh hAs hS) rfl rfl hl.1 rfl (lv_room (Nat.le_of_ble_eq_true rfl)) d_FB_init_42 ⟨Nat.le_of_ble_eq_true rfl, Nat.le_of_ble_eq_true rfl⟩) hP hD hK hS hA [11] [0, 1, 2, 3, 4, 5, 6, 7, 8, 9, 10] rfl rfl (by decide) (by decide) (fun ⟨q14, q15, q16⟩ H locs _ hP hD hK hS => ?_)
  have hK : va_K D cl [(cI, .int), (cZ, .boolean)] s := hK
  have hP : va_P D cl [(fb, .inr (5, [.ref q1, .ref q4, .ref q10, .null, .null, .null])), (q1, .inr (1, [.ref q2, .ref q3, .int 0, .int 0])), (q2, .inl (cI, 24, .inl (fun _ => 0))), (q3, .inl (cI, 24, .inl (fun _ => 0))), (q4, .inr (2, [.ref q5, .ref q6, .ref q7, .ref q8, .ref q9, .int 0])), (q5, .inl (cI, 12, .inl (fun _ => 0))), (q6, .inl (cI, 12, .inl (fun _ => 0))), (q7, .inl (cI, 12, .inl (fun _ => 0))), (q10, .inr (3, [.ref q11, .ref q12])), (q11, .inl (cI, 12, .inl (fun _ => 0))), (q12, .inl (cZ, 12, .inl (fun _ => 0))), (q13, .inr (4, [.ref q14, .ref q15, .ref q16, .int 0])), (q15, .inl (cI, 24, .inl (fun _ => (-1))))] H := hP
  have hD : va_D A [(fb, .inr (5, [.ref q1, .ref q4, .ref q10, .null, .null, .null])), (q1, .inr (1, [.ref q2, .ref q3, .int 0, .int 0])), (q2, .inl (cI, 24, .inl (fun _ => 0))), (q3, .inl (cI, 24, .inl (fun _ => 0))), (q4, .inr (2, [.ref q5, .ref q6, .ref q7, .ref q8, .ref q9, .int 0])), (q5, .inl (cI, 12, .inl (fun _ => 0))), (q6, .inl (cI, 12, .inl (fun _ => 0))), (q7, .inl (cI, 12, .inl (fun _ => 0))), (q10, .inr (3, [.ref q11, .ref q12])), (q11, .inl (cI, 12, .inl (fun _ => 0))), (q12, .inl (cZ, 12, .inl (fun _ => 0))), (q13, .inr (4, [.ref q14, .ref q15, .ref q16, .int 0])), (q15, .inl (cI, 24, .inl (fun _ => (-1))))] := hD
  refine va_putF (D := D) (ci := 5) (v := .ref q13) (ty := .object "FileBuilder$RecordLog") (C := R_FB) (T := F_FB) (N := 6) hx hb hts (fun w h => List.mem_cons_of_mem _ (u_FB w h)) t_FB o_FB n_FB hown hK hP hD hS 0 rfl rfl 3 (by decide) (hts _ (List.mem_cons_of_mem _ tw_149)) (fun _ h9 => h9) rfl hnm rfl (by decide +kernel) rfl rfl (Nat.le_of_ble_eq_true rfl) d_FB_init_45 (fun H locs hP hD hS => ?_)
  have hP : va_P D cl [(fb, .inr (5, [.ref q1, .ref q4, .ref q10, .ref q13, .null, .null])), (q1, .inr (1, [.ref q2, .ref q3, .int 0, .int 0])), (q2, .inl (cI, 24, .inl (fun _ => 0))), (q3, .inl (cI, 24, .inl (fun _ => 0))), (q4, .inr (2, [.ref q5, .ref q6, .ref q7, .ref q8, .ref q9, .int 0])), (q5, .inl (cI, 12, .inl (fun _ => 0))), (q6, .inl (cI, 12, .inl (fun _ => 0))), (q7, .inl (cI, 12, .inl (fun _ => 0))), (q10, .inr (3, [.ref q11, .ref q12])), (q11, .inl (cI, 12, .inl (fun _ => 0))), (q12, .inl (cZ, 12, .inl (fun _ => 0))), (q13, .inr (4, [.ref q14, .ref q15, .ref q16, .int 0])), (q15, .inl (cI, 24, .inl (fun _ => (-1))))] H := hP
  have hD : va_D A [(fb, .inr (5, [.ref q1, .ref q4, .ref q10, .ref q13, .null, .null])), (q1, .inr (1, [.ref q2, .ref q3, .int 0, .int 0])), (q2, .inl (cI, 24, .inl (fun _ => 0))), (q3, .inl (cI, 24, .inl (fun _ => 0))), (q4, .inr (2, [.ref q5, .ref q6, .ref q7, .ref q8, .ref q9, .int 0])), (q5, .inl (cI, 12, .inl (fun _ => 0))), (q6, .inl (cI, 12, .inl (fun _ => 0))), (q7, .inl (cI, 12, .inl (fun _ => 0))), (q10, .inr (3, [.ref q11, .ref q12])), (q11, .inl (cI, 12, .inl (fun _ => 0))), (q12, .inl (cZ, 12, .inl (fun _ => 0))), (q13, .inr (4, [.ref q14, .ref q15, .ref q16, .int 0])), (q15, .inl (cI, 24, .inl (fun _ => (-1))))] := hD
  refine lv_aload_n hx hb d_FB_init_48 rfl (lv_at hl 0 rfl) ?_
  refine va_new (ci := 0) (fs := [.null, .int 0, .int 0, .int 0]) (C := R_Bu) (T := F_Bu) (N := 4) hx hb hts (fun w h => List.mem_cons_of_mem _ (u_Bu w h)) t_Bu o_Bu hown (hts _ (List.mem_cons_of_mem _ tw_122)) (hts _ (List.mem_cons_of_mem _ tw_123)) (hts _ (List.mem_cons_of_mem _ tw_7)) hK hP hD hS hA rfl (fun j hj => by rcases (show j = 0 ∨ j = 1 ∨ j = 2 ∨ j = 3 by omega) with rfl | rfl | rfl | rfl <;> rfl) (Nat.le_of_ble_eq_true rfl) (Nat.le_of_ble_eq_true rfl) d_FB_init_49 (fun q17 H hP hD hS => ?_)
  have hP : va_P D cl [(fb, .inr (5, [.ref q1, .ref q4, .ref q10, .ref q13, .null, .null])), (q1, .inr (1, [.ref q2, .ref q3, .int 0, .int 0])), (q2, .inl (cI, 24, .inl (fun _ => 0))), (q3, .inl (cI, 24, .inl (fun _ => 0))), (q4, .inr (2, [.ref q5, .ref q6, .ref q7, .ref q8, .ref q9, .int 0])), (q5, .inl (cI, 12, .inl (fun _ => 0))), (q6, .inl (cI, 12, .inl (fun _ => 0))), (q7, .inl (cI, 12, .inl (fun _ => 0))), (q10, .inr (3, [.ref q11, .ref q12])), (q11, .inl (cI, 12, .inl (fun _ => 0))), (q12, .inl (cZ, 12, .inl (fun _ => 0))), (q13, .inr (4, [.ref q14, .ref q15, .ref q16, .int 0])), (q15, .inl (cI, 24, .inl (fun _ => (-1)))), (q17, .inr (0, [.null, .int 0, .int 0, .int 0]))] H := hP
  have hD : va_D A [(fb, .inr (5, [.ref q1, .ref q4, .ref q10, .ref q13, .null, .null])), (q1, .inr (1, [.ref q2, .ref q3, .int 0, .int 0])), (q2, .inl (cI, 24, .inl (fun _ => 0))), (q3, .inl (cI, 24, .inl (fun _ => 0))), (q4, .inr (2, [.ref q5, .ref q6, .ref q7, .ref q8, .ref q9, .int 0])), (q5, .inl (cI, 12, .inl (fun _ => 0))), (q6, .inl (cI, 12, .inl (fun _ => 0))), (q7, .inl (cI, 12, .inl (fun _ => 0))), (q10, .inr (3, [.ref q11, .ref q12])), (q11, .inl (cI, 12, .inl (fun _ => 0))), (q12, .inl (cZ, 12, .inl (fun _ => 0))), (q13, .inr (4, [.ref q14, .ref q15, .ref q16, .int 0])), (q15, .inl (cI, 24, .inl (fun _ => (-1)))), (q17, .inr (0, [.null, .int 0, .int 0, .int 0]))] := hD
  refine lv_dup hx hb d_FB_init_52 rfl ?_
  have hPc := hP.sub (ws' := [(q17, .inr (0, [.null, .int 0, .int 0, .int 0]))]) [13] rfl
  have hDc := hD.sub (ws' := [(q17, .inr (0, [.null, .int 0, .int 0, .int 0]))]) [13] (by decide) rfl
  have hKc := hK.sub (tys' := [(cI, .int)]) [0] rfl
  refine xgv (wsC := [(q17, .inr (0, [.null, .int 0, .int 0, .int 0]))]) (wr := [(fb, .inr (5, [.ref q1, .ref q4, .ref q10, .ref q13, .null, .null])), (q1, .inr (1, [.ref q2, .ref q3, .int 0, .int 0])), (q2, .inl (cI, 24, .inl (fun _ => 0))), (q3, .inl (cI, 24, .inl (fun _ => 0))), (q4, .inr (2, [.ref q5, .ref q6, .ref q7, .ref q8, .ref q9, .int 0])), (q5, .inl (cI, 12, .inl (fun _ => 0))), (q6, .inl (cI, 12, .inl (fun _ => 0))), (q7, .inl (cI, 12, .inl (fun _ => 0))), (q10, .inr (3, [.ref q11, .ref q12])), (q11, .inl (cI, 12, .inl (fun _ => 0))), (q12, .inl (cZ, 12, .inl (fun _ => 0))), (q13, .inr (4, [.ref q14, .ref q15, .ref q16, .int 0])), (q15, .inl (cI, 24, .inl (fun _ => (-1))))]) (va_runIN (As := []) (rest := [.ref q17, .ref fb]) ⟨hx, hb, hml, hown, hts⟩ (c_Bu_init l  D q17 cI _ ) ⟨(va_cnB 0 hts (x_good k_Bu_init) rfl rfl rfl (hAm.1 _ (List.mem_of_getElem? (i := 18) rfl)) (hts _ (List.mem_cons_of_mem _ tw_7)) (by decide +kernel) ⟨Nat.le_of_ble_eq_true rfl, Nat.le_of_ble_eq_true rfl⟩), rfl, (hts _ (List.mem_cons_of_mem _ tw_125))⟩ (xP_S hPc hKc hDc hAm hTh hAs hS) rfl rfl hl.1 rfl (lv_room (Nat.le_of_ble_eq_true rfl)) d_FB_init_53 ⟨Nat.le_of_ble_eq_true rfl, Nat.le_of_ble_eq_true rfl⟩) hP hD hK hS hA [13] [0, 1, 2, 3, 4, 5, 6, 7, 8, 9, 10, 11, 12] rfl rfl (by decide) (by decide) (fun q18 H locs _ hP hD hK hS => ?_)
  have hK : va_K D cl [(cI, .int), (cZ, .boolean)] s := hK
  have hP : va_P D cl [(fb, .inr (5, [.ref q1, .ref q4, .ref q10, .ref q13, .null, .null])), (q1, .inr (1, [.ref q2, .ref q3, .int 0, .int 0])), (q2, .inl (cI, 24, .inl (fun _ => 0))), (q3, .inl (cI, 24, .inl (fun _ => 0))), (q4, .inr (2, [.ref q5, .ref q6, .ref q7, .ref q8, .ref q9, .int 0])), (q5, .inl (cI, 12, .inl (fun _ => 0))), (q6, .inl (cI, 12, .inl (fun _ => 0))), (q7, .inl (cI, 12, .inl (fun _ => 0))), (q10, .inr (3, [.ref q11, .ref q12])), (q11, .inl (cI, 12, .inl (fun _ => 0))), (q12, .inl (cZ, 12, .inl (fun _ => 0))), (q13, .inr (4, [.ref q14, .ref q15, .ref q16, .int 0])), (q15, .inl (cI, 24, .inl (fun _ => (-1)))), (q17, .inr (0, [.ref q18, .int 0, .int 0, .int 0])), (q18, .inl (cI, 12, .inl (fun _ => 0)))] H := hP
  have hD : va_D A [(fb, .inr (5, [.ref q1, .ref q4, .ref q10, .ref q13, .null, .null])), (q1, .inr (1, [.ref q2, .ref q3, .int 0, .int 0])), (q2, .inl (cI, 24, .inl (fun _ => 0))), (q3, .inl (cI, 24, .inl (fun _ => 0))), (q4, .inr (2, [.ref q5, .ref q6, .ref q7, .ref q8, .ref q9, .int 0])), (q5, .inl (cI, 12, .inl (fun _ => 0))), (q6, .inl (cI, 12, .inl (fun _ => 0))), (q7, .inl (cI, 12, .inl (fun _ => 0))), (q10, .inr (3, [.ref q11, .ref q12])), (q11, .inl (cI, 12, .inl (fun _ => 0))), (q12, .inl (cZ, 12, .inl (fun _ => 0))), (q13, .inr (4, [.ref q14, .ref q15, .ref q16, .int 0])), (q15, .inl (cI, 24, .inl (fun _ => (-1)))), (q17, .inr (0, [.ref q18, .int 0, .int 0, .int 0])), (q18, .inl (cI, 12, .inl (fun _ => 0)))] := hD
  refine va_putF (D := D) (ci := 5) (v := .ref q17) (ty := .object "FileBuilder$Build") (C := R_FB) (T := F_FB) (N := 6) hx hb hts (fun w h => List.mem_cons_of_mem _ (u_FB w h)) t_FB o_FB n_FB hown hK hP hD hS 0 rfl rfl 4 (by decide) (hts _ (List.mem_cons_of_mem _ tw_150)) (fun _ h9 => h9) rfl hnm rfl (by decide +kernel) rfl rfl (Nat.le_of_ble_eq_true rfl) d_FB_init_56 (fun H locs hP hD hS => ?_)
  have hP : va_P D cl [(fb, .inr (5, [.ref q1, .ref q4, .ref q10, .ref q13, .ref q17, .null])), (q1, .inr (1, [.ref q2, .ref q3, .int 0, .int 0])), (q2, .inl (cI, 24, .inl (fun _ => 0))), (q3, .inl (cI, 24, .inl (fun _ => 0))), (q4, .inr (2, [.ref q5, .ref q6, .ref q7, .ref q8, .ref q9, .int 0])), (q5, .inl (cI, 12, .inl (fun _ => 0))), (q6, .inl (cI, 12, .inl (fun _ => 0))), (q7, .inl (cI, 12, .inl (fun _ => 0))), (q10, .inr (3, [.ref q11, .ref q12])), (q11, .inl (cI, 12, .inl (fun _ => 0))), (q12, .inl (cZ, 12, .inl (fun _ => 0))), (q13, .inr (4, [.ref q14, .ref q15, .ref q16, .int 0])), (q15, .inl (cI, 24, .inl (fun _ => (-1)))), (q17, .inr (0, [.ref q18, .int 0, .int 0, .int 0])), (q18, .inl (cI, 12, .inl (fun _ => 0)))] H := hP
  have hD : va_D A [(fb, .inr (5, [.ref q1, .ref q4, .ref q10, .ref q13, .ref q17, .null])), (q1, .inr (1, [.ref q2, .ref q3, .int 0, .int 0])), (q2, .inl (cI, 24, .inl (fun _ => 0))), (q3, .inl (cI, 24, .inl (fun _ => 0))), (q4, .inr (2, [.ref q5, .ref q6, .ref q7, .ref q8, .ref q9, .int 0])), (q5, .inl (cI, 12, .inl (fun _ => 0))), (q6, .inl (cI, 12, .inl (fun _ => 0))), (q7, .inl (cI, 12, .inl (fun _ => 0))), (q10, .inr (3, [.ref q11, .ref q12])), (q11, .inl (cI, 12, .inl (fun _ => 0))), (q12, .inl (cZ, 12, .inl (fun _ => 0))), (q13, .inr (4, [.ref q14, .ref q15, .ref q16, .int 0])), (q15, .inl (cI, 24, .inl (fun _ => (-1)))), (q17, .inr (0, [.ref q18, .int 0, .int 0, .int 0])), (q18, .inl (cI, 12, .inl (fun _ => 0)))] := hD
  refine lv_aload_n hx hb d_FB_init_59 rfl (lv_at hl 0 rfl) ?_
  refine lv_iconst (v := 3) hx hb d_FB_init_60 (by decide) ?_
  refine va_newa (atype := .int) (a0 := (3, .inl (fun _ => 0))) (N' := 3) (ty := .int) hx hb (hts _ (List.mem_cons_of_mem _ tw_47)) rfl hK hP hD hS hA (fun _ => rfl) (by decide) (by decide) (by decide) (Nat.le_of_ble_eq_true rfl) (Nat.le_of_ble_eq_true rfl) d_FB_init_61 (fun q19 cA20 H hK hP hD hS => ?_)
  obtain rfl : cI = cA20 := xsame (by intro C h; cases h) hK 0 2 rfl rfl
  have hK : va_K D cl [(cI, .int), (cZ, .boolean)] s := hK.sub [0, 1] rfl
  have hP : va_P D cl [(fb, .inr (5, [.ref q1, .ref q4, .ref q10, .ref q13, .ref q17, .null])), (q1, .inr (1, [.ref q2, .ref q3, .int 0, .int 0])), (q2, .inl (cI, 24, .inl (fun _ => 0))), (q3, .inl (cI, 24, .inl (fun _ => 0))), (q4, .inr (2, [.ref q5, .ref q6, .ref q7, .ref q8, .ref q9, .int 0])), (q5, .inl (cI, 12, .inl (fun _ => 0))), (q6, .inl (cI, 12, .inl (fun _ => 0))), (q7, .inl (cI, 12, .inl (fun _ => 0))), (q10, .inr (3, [.ref q11, .ref q12])), (q11, .inl (cI, 12, .inl (fun _ => 0))), (q12, .inl (cZ, 12, .inl (fun _ => 0))), (q13, .inr (4, [.ref q14, .ref q15, .ref q16, .int 0])), (q15, .inl (cI, 24, .inl (fun _ => (-1)))), (q17, .inr (0, [.ref q18, .int 0, .int 0, .int 0])), (q18, .inl (cI, 12, .inl (fun _ => 0))), (q19, .inl (cI, 3, .inl (fun _ => 0)))] H := hP
  have hD : va_D A [(fb, .inr (5, [.ref q1, .ref q4, .ref q10, .ref q13, .ref q17, .null])), (q1, .inr (1, [.ref q2, .ref q3, .int 0, .int 0])), (q2, .inl (cI, 24, .inl (fun _ => 0))), (q3, .inl (cI, 24, .inl (fun _ => 0))), (q4, .inr (2, [.ref q5, .ref q6, .ref q7, .ref q8, .ref q9, .int 0])), (q5, .inl (cI, 12, .inl (fun _ => 0))), (q6, .inl (cI, 12, .inl (fun _ => 0))), (q7, .inl (cI, 12, .inl (fun _ => 0))), (q10, .inr (3, [.ref q11, .ref q12])), (q11, .inl (cI, 12, .inl (fun _ => 0))), (q12, .inl (cZ, 12, .inl (fun _ => 0))), (q13, .inr (4, [.ref q14, .ref q15, .ref q16, .int 0])), (q15, .inl (cI, 24, .inl (fun _ => (-1)))), (q17, .inr (0, [.ref q18, .int 0, .int 0, .int 0])), (q18, .inl (cI, 12, .inl (fun _ => 0))), (q19, .inl (cI, 3, .inl (fun _ => 0)))] := hD
  refine va_putF (D := D) (ci := 5) (v := .ref q19) (ty := .array .int) (C := R_FB) (T := F_FB) (N := 6) hx hb hts (fun w h => List.mem_cons_of_mem _ (u_FB w h)) t_FB o_FB n_FB hown hK hP hD hS 0 rfl rfl 5 (by decide) (hts _ (List.mem_cons_of_mem _ tw_151)) (fun _ h9 => h9) rfl hnm rfl (by decide +kernel) rfl rfl (Nat.le_of_ble_eq_true rfl) d_FB_init_63 (fun H locs hP hD hS => ?_)
  have hP : va_P D cl [(fb, .inr (5, [.ref q1, .ref q4, .ref q10, .ref q13, .ref q17, .ref q19])), (q1, .inr (1, [.ref q2, .ref q3, .int 0, .int 0])), (q2, .inl (cI, 24, .inl (fun _ => 0))), (q3, .inl (cI, 24, .inl (fun _ => 0))), (q4, .inr (2, [.ref q5, .ref q6, .ref q7, .ref q8, .ref q9, .int 0])), (q5, .inl (cI, 12, .inl (fun _ => 0))), (q6, .inl (cI, 12, .inl (fun _ => 0))), (q7, .inl (cI, 12, .inl (fun _ => 0))), (q10, .inr (3, [.ref q11, .ref q12])), (q11, .inl (cI, 12, .inl (fun _ => 0))), (q12, .inl (cZ, 12, .inl (fun _ => 0))), (q13, .inr (4, [.ref q14, .ref q15, .ref q16, .int 0])), (q15, .inl (cI, 24, .inl (fun _ => (-1)))), (q17, .inr (0, [.ref q18, .int 0, .int 0, .int 0])), (q18, .inl (cI, 12, .inl (fun _ => 0))), (q19, .inl (cI, 3, .inl (fun _ => 0)))] H := hP
  have hD : va_D A [(fb, .inr (5, [.ref q1, .ref q4, .ref q10, .ref q13, .ref q17, .ref q19])), (q1, .inr (1, [.ref q2, .ref q3, .int 0, .int 0])), (q2, .inl (cI, 24, .inl (fun _ => 0))), (q3, .inl (cI, 24, .inl (fun _ => 0))), (q4, .inr (2, [.ref q5, .ref q6, .ref q7, .ref q8, .ref q9, .int 0])), (q5, .inl (cI, 12, .inl (fun _ => 0))), (q6, .inl (cI, 12, .inl (fun _ => 0))), (q7, .inl (cI, 12, .inl (fun _ => 0))), (q10, .inr (3, [.ref q11, .ref q12])), (q11, .inl (cI, 12, .inl (fun _ => 0))), (q12, .inl (cZ, 12, .inl (fun _ => 0))), (q13, .inr (4, [.ref q14, .ref q15, .ref q16, .int 0])), (q15, .inl (cI, 24, .inl (fun _ => (-1)))), (q17, .inr (0, [.ref q18, .int 0, .int 0, .int 0])), (q18, .inl (cI, 12, .inl (fun _ => 0))), (q19, .inl (cI, 3, .inl (fun _ => 0)))] := hD
  refine lv_aload_n hx hb d_FB_init_66 rfl (lv_at hl 0 rfl) ?_
  refine va_get (D := D) (ci := 5) (v := .ref q19) (C := R_FB) (T := F_FB) (N := 6) hx hb hts (fun w h => List.mem_cons_of_mem _ (u_FB w h)) hown hK hP 0 rfl rfl 5 (by decide) (hts _ (List.mem_cons_of_mem _ tw_151)) (fun _ h9 => h9) rfl d_FB_init_67 ?_
  refine lv_iconst (v := 1) hx hb d_FB_init_70 (by decide) ?_
  have hPc := hP.sub (ws' := [(q19, .inl (cI, 3, .inl (fun _ => 0)))]) [15] rfl
  have hDc := hD.sub (ws' := [(q19, .inl (cI, 3, .inl (fun _ => 0)))]) [15] (by decide) rfl
  have hKc := hK.sub (tys' := [(cI, .int)]) [0] rfl
  refine xgv (wsC := [(q19, .inl (cI, 3, .inl (fun _ => 0)))]) (wr := [(fb, .inr (5, [.ref q1, .ref q4, .ref q10, .ref q13, .ref q17, .ref q19])), (q1, .inr (1, [.ref q2, .ref q3, .int 0, .int 0])), (q2, .inl (cI, 24, .inl (fun _ => 0))), (q3, .inl (cI, 24, .inl (fun _ => 0))), (q4, .inr (2, [.ref q5, .ref q6, .ref q7, .ref q8, .ref q9, .int 0])), (q5, .inl (cI, 12, .inl (fun _ => 0))), (q6, .inl (cI, 12, .inl (fun _ => 0))), (q7, .inl (cI, 12, .inl (fun _ => 0))), (q10, .inr (3, [.ref q11, .ref q12])), (q11, .inl (cI, 12, .inl (fun _ => 0))), (q12, .inl (cZ, 12, .inl (fun _ => 0))), (q13, .inr (4, [.ref q14, .ref q15, .ref q16, .int 0])), (q15, .inl (cI, 24, .inl (fun _ => (-1)))), (q17, .inr (0, [.ref q18, .int 0, .int 0, .int 0])), (q18, .inl (cI, 12, .inl (fun _ => 0)))]) (va_runS (As := [.ref q19, .int 1]) (rest := []) ⟨hx, hb, hml, hown, hts⟩ (c_Ar_fill l D q19 cI 3 (fun _ => 0) 1 _ (by decide)) ⟨(callB_of 2 hts (x_good k_Ar_fill) rfl rfl rfl (hts _ (List.mem_cons_of_mem _ tw_6)) (hts _ (List.mem_cons_of_mem _ tw_145)) (by decide +kernel) ⟨Nat.le_of_ble_eq_true rfl, Nat.le_of_ble_eq_true rfl⟩), (hts _ (List.mem_cons_of_mem _ tw_103))⟩ (xP_S hPc hKc hDc hAm hTh hAs hS) rfl rfl hl.1 rfl (lv_room (Nat.le_of_ble_eq_true rfl)) d_FB_init_71 ⟨Nat.le_of_ble_eq_true rfl, Nat.le_of_ble_eq_true rfl⟩) hP hD hK hS hA [15] [0, 1, 2, 3, 4, 5, 6, 7, 8, 9, 10, 11, 12, 13, 14] rfl rfl (by decide) (by decide) (fun _ H locs _ hP hD hK hS => ?_)
  have hK : va_K D cl [(cI, .int), (cZ, .boolean)] s := hK
  have hP : va_P D cl [(fb, .inr (5, [.ref q1, .ref q4, .ref q10, .ref q13, .ref q17, .ref q19])), (q1, .inr (1, [.ref q2, .ref q3, .int 0, .int 0])), (q2, .inl (cI, 24, .inl (fun _ => 0))), (q3, .inl (cI, 24, .inl (fun _ => 0))), (q4, .inr (2, [.ref q5, .ref q6, .ref q7, .ref q8, .ref q9, .int 0])), (q5, .inl (cI, 12, .inl (fun _ => 0))), (q6, .inl (cI, 12, .inl (fun _ => 0))), (q7, .inl (cI, 12, .inl (fun _ => 0))), (q10, .inr (3, [.ref q11, .ref q12])), (q11, .inl (cI, 12, .inl (fun _ => 0))), (q12, .inl (cZ, 12, .inl (fun _ => 0))), (q13, .inr (4, [.ref q14, .ref q15, .ref q16, .int 0])), (q15, .inl (cI, 24, .inl (fun _ => (-1)))), (q17, .inr (0, [.ref q18, .int 0, .int 0, .int 0])), (q18, .inl (cI, 12, .inl (fun _ => 0))), (q19, .inl (cI, 3, .inl (fun _ => 1)))] H := hP
  have hD : va_D A [(fb, .inr (5, [.ref q1, .ref q4, .ref q10, .ref q13, .ref q17, .ref q19])), (q1, .inr (1, [.ref q2, .ref q3, .int 0, .int 0])), (q2, .inl (cI, 24, .inl (fun _ => 0))), (q3, .inl (cI, 24, .inl (fun _ => 0))), (q4, .inr (2, [.ref q5, .ref q6, .ref q7, .ref q8, .ref q9, .int 0])), (q5, .inl (cI, 12, .inl (fun _ => 0))), (q6, .inl (cI, 12, .inl (fun _ => 0))), (q7, .inl (cI, 12, .inl (fun _ => 0))), (q10, .inr (3, [.ref q11, .ref q12])), (q11, .inl (cI, 12, .inl (fun _ => 0))), (q12, .inl (cZ, 12, .inl (fun _ => 0))), (q13, .inr (4, [.ref q14, .ref q15, .ref q16, .int 0])), (q15, .inl (cI, 24, .inl (fun _ => (-1)))), (q17, .inr (0, [.ref q18, .int 0, .int 0, .int 0])), (q18, .inl (cI, 12, .inl (fun _ => 0))), (q19, .inl (cI, 3, .inl (fun _ => 1)))] := hD
  exact xrv (q1, q4, q10, q13, q17, q19, q2, q3, q5, q6, q7, q11, q12, q15, q18, q8, q9, q14, q16) B d_FB_init_74 (trivial) (hP.sub (ws' := [(fb, .inr (5, [.ref q1, .ref q4, .ref q10, .ref q13, .ref q17, .ref q19])), (q1, .inr (1, [.ref q2, .ref q3, .int 0, .int 0])), (q4, .inr (2, [.ref q5, .ref q6, .ref q7, .ref q8, .ref q9, .int 0])), (q10, .inr (3, [.ref q11, .ref q12])), (q13, .inr (4, [.ref q14, .ref q15, .ref q16, .int 0])), (q17, .inr (0, [.ref q18, .int 0, .int 0, .int 0])), (q19, .inl (cI, 3, .inl (fun _ => 1))), (q2, .inl (cI, 24, .inl (fun _ => 0))), (q3, .inl (cI, 24, .inl (fun _ => 0))), (q5, .inl (cI, 12, .inl (fun _ => 0))), (q6, .inl (cI, 12, .inl (fun _ => 0))), (q7, .inl (cI, 12, .inl (fun _ => 0))), (q11, .inl (cI, 12, .inl (fun _ => 0))), (q12, .inl (cZ, 12, .inl (fun _ => 0))), (q15, .inl (cI, 24, .inl (fun _ => (-1)))), (q18, .inl (cI, 12, .inl (fun _ => 0)))]) [0, 1, 4, 8, 11, 13, 15, 2, 3, 5, 6, 7, 9, 10, 12, 14] rfl) (hK.sub (tys' := []) [] rfl) (hD.sub (ws' := [(fb, .inr (5, [.ref q1, .ref q4, .ref q10, .ref q13, .ref q17, .ref q19])), (q1, .inr (1, [.ref q2, .ref q3, .int 0, .int 0])), (q4, .inr (2, [.ref q5, .ref q6, .ref q7, .ref q8, .ref q9, .int 0])), (q10, .inr (3, [.ref q11, .ref q12])), (q13, .inr (4, [.ref q14, .ref q15, .ref q16, .int 0])), (q17, .inr (0, [.ref q18, .int 0, .int 0, .int 0])), (q19, .inl (cI, 3, .inl (fun _ => 1))), (q2, .inl (cI, 24, .inl (fun _ => 0))), (q3, .inl (cI, 24, .inl (fun _ => 0))), (q5, .inl (cI, 12, .inl (fun _ => 0))), (q6, .inl (cI, 12, .inl (fun _ => 0))), (q7, .inl (cI, 12, .inl (fun _ => 0))), (q11, .inl (cI, 12, .inl (fun _ => 0))), (q12, .inl (cZ, 12, .inl (fun _ => 0))), (q15, .inl (cI, 24, .inl (fun _ => (-1)))), (q18, .inl (cI, 12, .inl (fun _ => 0)))]) [0, 1, 4, 8, 11, 13, 15, 2, 3, 5, 6, 7, 9, 10, 12, 14] (by decide) rfl) hS (Nat.le_of_ble_eq_true rfl) (Nat.le_of_ble_eq_true rfl)
end
section
theorem tw_271 : (Jvm.Cond.superclass "java/lang/Throwable" "java/lang/Object") ∈ xTB := x_t2 31 rfl rfl
theorem own_NSE : ∀ w ∈ xAtoms "FileBuilder" 153 "java/util/NoSuchElementException" "java/lang/RuntimeException" 13 prog_18_method_4_code ["java/lang/Exception"], w ∈ xTB ∨ w ∈ xNT ∨ w ∈ xHW := List.forall_mem_cons.mpr ⟨Or.inl tw_9, List.forall_mem_cons.mpr ⟨Or.inl tw_271, List.forall_mem_cons.mpr ⟨Or.inl tw_280, List.forall_mem_cons.mpr ⟨Or.inl tw_285, List.forall_mem_cons.mpr ⟨Or.inl tw_288, List.forall_mem_cons.mpr ⟨Or.inl tw_290, List.forall_mem_cons.mpr ⟨Or.inl tw_272, List.forall_mem_cons.mpr ⟨Or.inl tw_273, List.forall_mem_cons.mpr ⟨Or.inl tw_23, List.forall_mem_cons.mpr ⟨Or.inl tw_24, List.forall_mem_cons.mpr ⟨Or.inl tw_274, List.forall_mem_cons.mpr ⟨Or.inl tw_279, List.forall_mem_cons.mpr ⟨Or.inl tw_286, List.forall_mem_cons.mpr ⟨Or.inl tw_306, List.forall_mem_cons.mpr ⟨Or.inl tw_261, List.forall_mem_cons.mpr ⟨Or.inl tw_307, List.forall_mem_cons.mpr ⟨Or.inl tw_263, List.forall_mem_cons.mpr ⟨Or.inl tw_308, List.forall_mem_cons.mpr ⟨Or.inl tw_265, List.forall_mem_cons.mpr ⟨Or.inl tw_275, List.forall_mem_cons.mpr ⟨Or.inr (Or.inr (List.mem_of_getElem? (i := 2) rfl)), List.forall_mem_cons.mpr ⟨Or.inl tw_277, List.forall_mem_cons.mpr ⟨Or.inr (Or.inr (List.mem_of_getElem? (i := 3) rfl)), List.forall_mem_cons.mpr ⟨Or.inl tw_267, List.forall_mem_cons.mpr ⟨Or.inl tw_302, List.forall_mem_cons.mpr ⟨Or.inl tw_303, List.forall_mem_cons.mpr ⟨Or.inl tw_305, List.forall_mem_cons.mpr ⟨Or.inl tw_267, List.forall_mem_cons.mpr ⟨Or.inl tw_441, List.forall_mem_cons.mpr ⟨Or.inl tw_442, List.forall_mem_cons.mpr ⟨Or.inl tw_443, List.forall_mem_cons.mpr ⟨Or.inl tw_296, List.forall_mem_cons.mpr ⟨Or.inr (Or.inl (List.mem_of_getElem? (i := 31) rfl)), List.forall_mem_cons.mpr ⟨Or.inl tw_296, List.forall_mem_cons.mpr ⟨Or.inl tw_297, List.forall_mem_cons.mpr ⟨Or.inl tw_298, List.forall_mem_cons.mpr ⟨Or.inl tw_299, List.forall_mem_cons.mpr ⟨Or.inr (Or.inl (List.mem_of_getElem? (i := 33) rfl)), List.forall_mem_cons.mpr ⟨Or.inl tw_299, List.forall_mem_cons.mpr ⟨Or.inl tw_300, List.forall_mem_cons.mpr ⟨Or.inl tw_301, List.forall_mem_cons.mpr ⟨Or.inl tw_302, List.forall_mem_cons.mpr ⟨Or.inr (Or.inl (List.mem_of_getElem? (i := 35) rfl)), List.forall_mem_cons.mpr ⟨Or.inl tw_440, List.forall_mem_cons.mpr ⟨Or.inl tw_431, List.forall_mem_cons.mpr ⟨Or.inl tw_433, List.forall_mem_cons.mpr ⟨Or.inl tw_284, List.forall_mem_cons.mpr ⟨Or.inl tw_434, List.forall_mem_cons.mpr ⟨Or.inl tw_435, List.forall_mem_cons.mpr ⟨Or.inl tw_436, List.forall_mem_cons.mpr ⟨Or.inl tw_437, List.forall_mem_cons.mpr ⟨Or.inr (Or.inr (List.mem_of_getElem? (i := 0) rfl)), List.forall_mem_cons.mpr ⟨Or.inr (Or.inr (List.mem_of_getElem? (i := 1) rfl)), List.forall_mem_cons.mpr ⟨Or.inl tw_270, List.forall_mem_cons.mpr ⟨Or.inl tw_269, List.forall_mem_cons.mpr ⟨Or.inl tw_438, fun _ h => absurd h List.not_mem_nil⟩⟩⟩⟩⟩⟩⟩⟩⟩⟩⟩⟩⟩⟩⟩⟩⟩⟩⟩⟩⟩⟩⟩⟩⟩⟩⟩⟩⟩⟩⟩⟩⟩⟩⟩⟩⟩⟩⟩⟩⟩⟩⟩⟩⟩⟩⟩⟩⟩⟩⟩⟩⟩⟩⟩⟩
theorem dNSE_0 : decode prog_18_method_4_code 0 = .ok (.aload_n 0, 1) := by decide +kernel
theorem dNSE_1 : decode prog_18_method_4_code 1 = .ok (.aload_n 1, 1) := by decide +kernel
theorem dNSE_2 : decode prog_18_method_4_code 2 = .ok (.invokespecial 13, 3) := by decide +kernel
theorem dNSE_5 : decode prog_18_method_4_code 5 = .ok (.return_, 1) := by decide +kernel
theorem own_IAE : ∀ w ∈ Bundle.ownAtoms "FileBuilder" 69 "java/lang/IllegalArgumentException" ["java/lang/RuntimeException", "java/lang/Exception"], w ∈ xTB ∨ w ∈ xNT ∨ w ∈ xHW := List.forall_mem_cons.mpr ⟨Or.inl tw_9, List.forall_mem_cons.mpr ⟨Or.inl tw_271, List.forall_mem_cons.mpr ⟨Or.inl tw_280, List.forall_mem_cons.mpr ⟨Or.inl tw_285, List.forall_mem_cons.mpr ⟨Or.inl tw_288, List.forall_mem_cons.mpr ⟨Or.inl tw_290, List.forall_mem_cons.mpr ⟨Or.inl tw_272, List.forall_mem_cons.mpr ⟨Or.inl tw_273, List.forall_mem_cons.mpr ⟨Or.inl tw_23, List.forall_mem_cons.mpr ⟨Or.inl tw_24, List.forall_mem_cons.mpr ⟨Or.inl tw_274, List.forall_mem_cons.mpr ⟨Or.inl tw_279, List.forall_mem_cons.mpr ⟨Or.inl tw_286, List.forall_mem_cons.mpr ⟨Or.inl tw_306, List.forall_mem_cons.mpr ⟨Or.inl tw_261, List.forall_mem_cons.mpr ⟨Or.inl tw_307, List.forall_mem_cons.mpr ⟨Or.inl tw_263, List.forall_mem_cons.mpr ⟨Or.inl tw_308, List.forall_mem_cons.mpr ⟨Or.inl tw_265, List.forall_mem_cons.mpr ⟨Or.inl tw_275, List.forall_mem_cons.mpr ⟨Or.inr (Or.inr (List.mem_of_getElem? (i := 2) rfl)), List.forall_mem_cons.mpr ⟨Or.inl tw_277, List.forall_mem_cons.mpr ⟨Or.inr (Or.inr (List.mem_of_getElem? (i := 3) rfl)), List.forall_mem_cons.mpr ⟨Or.inl tw_267, List.forall_mem_cons.mpr ⟨Or.inl tw_302, List.forall_mem_cons.mpr ⟨Or.inl tw_303, List.forall_mem_cons.mpr ⟨Or.inl tw_305, List.forall_mem_cons.mpr ⟨Or.inl tw_267, List.forall_mem_cons.mpr ⟨Or.inl tw_293, List.forall_mem_cons.mpr ⟨Or.inl tw_294, List.forall_mem_cons.mpr ⟨Or.inl tw_295, List.forall_mem_cons.mpr ⟨Or.inl tw_296, List.forall_mem_cons.mpr ⟨Or.inr (Or.inl (List.mem_of_getElem? (i := 31) rfl)), List.forall_mem_cons.mpr ⟨Or.inl tw_296, List.forall_mem_cons.mpr ⟨Or.inl tw_297, List.forall_mem_cons.mpr ⟨Or.inl tw_298, List.forall_mem_cons.mpr ⟨Or.inl tw_299, List.forall_mem_cons.mpr ⟨Or.inr (Or.inl (List.mem_of_getElem? (i := 33) rfl)), List.forall_mem_cons.mpr ⟨Or.inl tw_299, List.forall_mem_cons.mpr ⟨Or.inl tw_300, List.forall_mem_cons.mpr ⟨Or.inl tw_301, List.forall_mem_cons.mpr ⟨Or.inl tw_302, List.forall_mem_cons.mpr ⟨Or.inr (Or.inl (List.mem_of_getElem? (i := 35) rfl)), List.forall_mem_cons.mpr ⟨Or.inl tw_292, List.forall_mem_cons.mpr ⟨Or.inl tw_250, List.forall_mem_cons.mpr ⟨Or.inr (Or.inl (List.mem_of_getElem? (i := 29) rfl)), List.forall_mem_cons.mpr ⟨Or.inl tw_258, List.forall_mem_cons.mpr ⟨Or.inl tw_259, List.forall_mem_cons.mpr ⟨Or.inl tw_260, List.forall_mem_cons.mpr ⟨Or.inl tw_262, List.forall_mem_cons.mpr ⟨Or.inl tw_264, List.forall_mem_cons.mpr ⟨Or.inl tw_266, List.forall_mem_cons.mpr ⟨Or.inr (Or.inr (List.mem_of_getElem? (i := 0) rfl)), List.forall_mem_cons.mpr ⟨Or.inr (Or.inr (List.mem_of_getElem? (i := 1) rfl)), List.forall_mem_cons.mpr ⟨Or.inl tw_270, List.forall_mem_cons.mpr ⟨Or.inl tw_269, List.forall_mem_cons.mpr ⟨Or.inl tw_268, fun _ h => absurd h List.not_mem_nil⟩⟩⟩⟩⟩⟩⟩⟩⟩⟩⟩⟩⟩⟩⟩⟩⟩⟩⟩⟩⟩⟩⟩⟩⟩⟩⟩⟩⟩⟩⟩⟩⟩⟩⟩⟩⟩⟩⟩⟩⟩⟩⟩⟩⟩⟩⟩⟩⟩⟩⟩⟩⟩⟩⟩⟩⟩
theorem xNT_ot : ∀ w ∈ xNT, w.onTables = true := by
  have h : xNT.all (fun w => w.onTables) = true := by decide +kernel
  exact List.all_eq_true.mp h
theorem xOwn {args : Array Value} {s : State} {L : List Cond} {a : Cond} (h : ∀ w ∈ L, w ∈ xTB ∨ w ∈ xNT ∨ w ∈ xHW) (hts : ∀ w ∈ a :: xTB, w.before args s = true) (hAm : xAmb s) (hTh : xTh s s.heap) : ∀ w ∈ L, w.before args s = true := by
  intro w hw
  rcases h w hw with h1 | h1 | h1
  · exact hts w (List.mem_cons_of_mem _ h1)
  · exact va_Nw.use (xNT_ot w h1) (hAm.1 w h1)
  · exact hTh.words w h1
theorem d_Bu_isUnderWay_0 : decode b_Bu_isUnderWay 0 = .ok (.aload_n 0, 1) := by decide +kernel
theorem d_Bu_isUnderWay_1 : decode b_Bu_isUnderWay 1 = .ok (.getfield 15, 3) := by decide +kernel
theorem d_Bu_isUnderWay_4 : decode b_Bu_isUnderWay 4 = .ok (.iconst (1), 1) := by decide +kernel
theorem d_Bu_isUnderWay_5 : decode b_Bu_isUnderWay 5 = .ok (.if_icmp .ne (7), 3) := by decide +kernel
theorem d_Bu_isUnderWay_12 : decode b_Bu_isUnderWay 12 = .ok (.iconst (0), 1) := by decide +kernel
theorem d_Bu_isUnderWay_13 : decode b_Bu_isUnderWay 13 = .ok (.ireturn, 1) := by decide +kernel
set_option maxRecDepth 20000 in
set_option maxHeartbeats 4000000 in
theorem c_Bu_isUnderWay (l : Launch) (D : va_G) (bu : Nat) (bs : Nat) (sz : Nat)  : xMi l y_Bu_isUnderWay w_Bu_isUnderWay { frames := 0, cells := 0, slots := 0, locals := 0 } D cl [.ref bu] sz [] [(bu, .inr (0, [.ref bs, .int 0, .int 0, .int 0]))] (fun (r : Int32) (_ : Unit) => r = 0) (fun _ => [(bu, .inr (0, [.ref bs, .int 0, .int 0, .int 0]))]) (fun _ => []) := by
  refine xMi_of (by decide +kernel) rfl (Nat.le_of_ble_eq_true rfl) ?_
  intro p e s m args below meth c ls A B hAe hA hsz hP hK hD hS hAm hTh hAs hl
  obtain ⟨⟨hx, hb, hml, hown, hts⟩, hret, hlk, hnm, hemp⟩ := id B
  have hl : lv_has ls 1 [(0, .ref bu)] := hl
  refine lv_aload_n hx hb d_Bu_isUnderWay_0 rfl (lv_at hl 0 rfl) ?_
  refine va_get (D := D) (ci := 0) (v := .int 0) (C := R_Bu) (T := F_Bu) (N := 4) hx hb hts (fun w h => List.mem_cons_of_mem _ (u_Bu w h)) hown hK hP 0 rfl rfl 3 (by decide) (hts _ (List.mem_cons_of_mem _ tw_134)) (fun _ h9 => h9) rfl d_Bu_isUnderWay_1 ?_
  refine lv_iconst (v := 1) hx hb d_Bu_isUnderWay_4 (by decide) ?_
  refine lv_icmp_ne (tgt := 12) hx hb d_Bu_isUnderWay_5 (by decide) (fun b5 => ?_) (fun b5 => absurd b5 (by decide))
  refine lv_iconst (v := 0) hx hb d_Bu_isUnderWay_12 (by decide) ?_
  exact xrz () B d_Bu_isUnderWay_13 (rfl) (rfl) (hP.sub (ws' := [(bu, .inr (0, [.ref bs, .int 0, .int 0, .int 0]))]) [0] rfl) (hK.sub (tys' := []) [] rfl) (hD.sub (ws' := [(bu, .inr (0, [.ref bs, .int 0, .int 0, .int 0]))]) [0] (by decide) rfl) hS (Nat.le_of_ble_eq_true rfl) (Nat.le_of_ble_eq_true rfl)
theorem d_Gr_hasEdge_0 : decode b_Gr_hasEdge 0 = .ok (.iload_n 1, 1) := by decide +kernel
theorem d_Gr_hasEdge_1 : decode b_Gr_hasEdge 1 = .ok (.iconst (0), 1) := by decide +kernel
theorem d_Gr_hasEdge_2 : decode b_Gr_hasEdge 2 = .ok (.aload_n 0, 1) := by decide +kernel
theorem d_Gr_hasEdge_3 : decode b_Gr_hasEdge 3 = .ok (.getfield 29, 3) := by decide +kernel
theorem d_Gr_hasEdge_6 : decode b_Gr_hasEdge 6 = .ok (.iconst (1), 1) := by decide +kernel
theorem d_Gr_hasEdge_7 : decode b_Gr_hasEdge 7 = .ok (.isub, 1) := by decide +kernel
theorem d_Gr_hasEdge_8 : decode b_Gr_hasEdge 8 = .ok (.invokestatic 33, 3) := by decide +kernel
theorem d_Gr_hasEdge_11 : decode b_Gr_hasEdge 11 = .ok (.ireturn, 1) := by decide +kernel
set_option maxRecDepth 20000 in
set_option maxHeartbeats 4000000 in
theorem c_Gr_hasEdge (l : Launch) (D : va_G) (gr : Nat) (gc : Nat) (gf : Nat) (gp : Nat) (gb : Nat) (gl : Nat) (x : Int32) (sz : Nat)  : xMi l y_Gr_hasEdge w_Gr_hasEdge { frames := 1, cells := 0, slots := 0, locals := 22 } D cl [.ref gr, .int x] sz [] [(gr, .inr (2, [.ref gc, .ref gf, .ref gp, .ref gb, .ref gl, .int 0]))] (fun (r : Int32) (_ : Unit) => r = 0) (fun _ => [(gr, .inr (2, [.ref gc, .ref gf, .ref gp, .ref gb, .ref gl, .int 0]))]) (fun _ => []) := by
  refine xMi_of (by decide +kernel) rfl (Nat.le_of_ble_eq_true rfl) ?_
  intro p e s m args below meth c ls A B hAe hA hsz hP hK hD hS hAm hTh hAs hl
  obtain ⟨⟨hx, hb, hml, hown, hts⟩, hret, hlk, hnm, hemp⟩ := id B
  have hl : lv_has ls 2 [(0, .ref gr), (1, .int x)] := hl
  refine lv_iload_n hx hb d_Gr_hasEdge_0 rfl (lv_at hl 1 rfl) ?_
  refine lv_iconst (v := 0) hx hb d_Gr_hasEdge_1 (by decide) ?_
  refine lv_aload_n hx hb d_Gr_hasEdge_2 rfl (lv_at hl 0 rfl) ?_
  refine va_get (D := D) (ci := 2) (v := .int 0) (C := R_Gr) (T := F_Gr) (N := 6) hx hb hts (fun w h => List.mem_cons_of_mem _ (u_Gr w h)) hown hK hP 0 rfl rfl 5 (by decide) (hts _ (List.mem_cons_of_mem _ tw_65)) (fun _ h9 => h9) rfl d_Gr_hasEdge_3 ?_
  refine lv_iconst (v := 1) hx hb d_Gr_hasEdge_6 (by decide) ?_
  refine lv_isub hx hb d_Gr_hasEdge_7 ?_
  refine xnum (v := (-1)) (by decide) ?_
  have hPc := hP.sub (ws' := []) [] rfl
  have hDc := hD.sub (ws' := []) [] (by decide) rfl
  have hKc := hK.sub (tys' := []) [] rfl
  refine xgi (wsC := []) (wr := [(gr, .inr (2, [.ref gc, .ref gf, .ref gp, .ref gb, .ref gl, .int 0]))]) (va_runSN (As := [.int x, .int 0, .int (-1)]) (rest := []) ⟨hx, hb, hml, hown, hts⟩ (c_FB_isIn l  D x 0 (-1) _ ) ⟨(va_cnB 3 hts (x_good k_FB_isIn) rfl rfl rfl (hAm.1 _ (List.mem_of_getElem? (i := 39) rfl)) (hts _ (List.mem_cons_of_mem _ tw_1)) (by decide +kernel) ⟨Nat.le_of_ble_eq_true rfl, Nat.le_of_ble_eq_true rfl⟩), (hts _ (List.mem_cons_of_mem _ tw_226)), trivial⟩ (xP_S hPc hKc hDc hAm hTh hAs hS) rfl rfl hl.1 rfl (lv_room (Nat.le_of_ble_eq_true rfl)) d_Gr_hasEdge_8 ⟨Nat.le_of_ble_eq_true rfl, Nat.le_of_ble_eq_true rfl⟩) hP hD hK hS hA [] [0] rfl rfl (by decide) (by decide) (fun r1 _ H locs er1 hP hD hK hS => ?_)
  have er1 : r1 = xIn x 0 (-1) := er1
  subst er1
  have hK : va_K D cl [] s := hK
  have hP : va_P D cl [(gr, .inr (2, [.ref gc, .ref gf, .ref gp, .ref gb, .ref gl, .int 0]))] H := hP
  have hD : va_D A [(gr, .inr (2, [.ref gc, .ref gf, .ref gp, .ref gb, .ref gl, .int 0]))] := hD
  exact xrz () B d_Gr_hasEdge_11 (xIn_nar _ _ _) (xIn_none x) (hP.sub (ws' := [(gr, .inr (2, [.ref gc, .ref gf, .ref gp, .ref gb, .ref gl, .int 0]))]) [0] rfl) (hK.sub (tys' := []) [] rfl) (hD.sub (ws' := [(gr, .inr (2, [.ref gc, .ref gf, .ref gp, .ref gb, .ref gl, .int 0]))]) [0] (by decide) rfl) hS (Nat.le_of_ble_eq_true rfl) (Nat.le_of_ble_eq_true rfl)
theorem d_FB_refuseUnderWay_0 : decode b_FB_refuseUnderWay 0 = .ok (.aload_n 0, 1) := by decide +kernel
theorem d_FB_refuseUnderWay_1 : decode b_FB_refuseUnderWay 1 = .ok (.getfield 40, 3) := by decide +kernel
theorem d_FB_refuseUnderWay_4 : decode b_FB_refuseUnderWay 4 = .ok (.invokevirtual 76, 3) := by decide +kernel
theorem d_FB_refuseUnderWay_7 : decode b_FB_refuseUnderWay 7 = .ok (.ifCond .eq (13), 3) := by decide +kernel
theorem d_FB_refuseUnderWay_20 : decode b_FB_refuseUnderWay 20 = .ok (.return_, 1) := by decide +kernel
set_option maxRecDepth 20000 in
set_option maxHeartbeats 4000000 in
theorem c_FB_refuseUnderWay (l : Launch) (D : va_G) (fb : Nat) (bu : Nat) (di : Nat) (gr : Nat) (re : Nat) (rl : Nat) (de : Nat) (bs : Nat) (sz : Nat)  : xMv l y_FB_refuseUnderWay w_FB_refuseUnderWay { frames := 1, cells := 0, slots := 0, locals := 20 } D cl [.ref fb] sz [] [(fb, .inr (5, [.ref di, .ref gr, .ref re, .ref rl, .ref bu, .ref de])), (bu, .inr (0, [.ref bs, .int 0, .int 0, .int 0]))] (fun (_ : Unit) => True) (fun _ => [(fb, .inr (5, [.ref di, .ref gr, .ref re, .ref rl, .ref bu, .ref de])), (bu, .inr (0, [.ref bs, .int 0, .int 0, .int 0]))]) (fun _ => []) := by
  refine xMv_of (by decide +kernel) rfl (Nat.le_of_ble_eq_true rfl) ?_
  intro p e s m args below meth c ls A B hAe hA hsz hP hK hD hS hAm hTh hAs hl
  obtain ⟨⟨hx, hb, hml, hown, hts⟩, hret, hlk, hnm, hemp⟩ := id B
  have hl : lv_has ls 1 [(0, .ref fb)] := hl
  refine lv_aload_n hx hb d_FB_refuseUnderWay_0 rfl (lv_at hl 0 rfl) ?_
  refine va_get (D := D) (ci := 5) (v := .ref bu) (C := R_FB) (T := F_FB) (N := 6) hx hb hts (fun w h => List.mem_cons_of_mem _ (u_FB w h)) hown hK hP 0 rfl rfl 4 (by decide) (hts _ (List.mem_cons_of_mem _ tw_150)) (fun _ h9 => h9) rfl d_FB_refuseUnderWay_1 ?_
  have hPc := hP.sub (ws' := [(bu, .inr (0, [.ref bs, .int 0, .int 0, .int 0]))]) [1] rfl
  have hDc := hD.sub (ws' := [(bu, .inr (0, [.ref bs, .int 0, .int 0, .int 0]))]) [1] (by decide) rfl
  have hKc := hK.sub (tys' := []) [] rfl
  refine xgi (wsC := [(bu, .inr (0, [.ref bs, .int 0, .int 0, .int 0]))]) (wr := [(fb, .inr (5, [.ref di, .ref gr, .ref re, .ref rl, .ref bu, .ref de]))]) (va_runVN (As := []) (rest := []) ⟨hx, hb, hml, hown, hts⟩ (c_Bu_isUnderWay l  D bu bs _ ) ⟨(va_cnB 0 hts (x_good k_Bu_isUnderWay) rfl rfl rfl (hAm.1 _ (List.mem_of_getElem? (i := 23) rfl)) (hts _ (List.mem_cons_of_mem _ tw_7)) (by decide +kernel) ⟨Nat.le_of_ble_eq_true rfl, Nat.le_of_ble_eq_true rfl⟩), (hts _ (List.mem_cons_of_mem _ tw_171)), (hts _ (List.mem_cons_of_mem _ (x_sel 0 rfl)))⟩ (xP_V (va_recv (ci := 0) (q0 := 1) hK hP rfl rfl) hPc hKc hDc hAm hTh hAs hS) rfl rfl hl.1 rfl (lv_room (Nat.le_of_ble_eq_true rfl)) d_FB_refuseUnderWay_4 ⟨Nat.le_of_ble_eq_true rfl, Nat.le_of_ble_eq_true rfl⟩) hP hD hK hS hA [1] [0] rfl rfl (by decide) (by decide) (fun r1 _ H locs er1 hP hD hK hS => ?_)
  have er1 : r1 = 0 := er1
  subst er1
  have hK : va_K D cl [] s := hK
  have hP : va_P D cl [(fb, .inr (5, [.ref di, .ref gr, .ref re, .ref rl, .ref bu, .ref de])), (bu, .inr (0, [.ref bs, .int 0, .int 0, .int 0]))] H := hP
  have hD : va_D A [(fb, .inr (5, [.ref di, .ref gr, .ref re, .ref rl, .ref bu, .ref de])), (bu, .inr (0, [.ref bs, .int 0, .int 0, .int 0]))] := hD
  refine lv_if_eq (tgt := 20) hx hb d_FB_refuseUnderWay_7 (by decide) (fun b7 => ?_) (fun b7 => absurd b7 (by decide))
  exact xrv () B d_FB_refuseUnderWay_20 (trivial) (hP.sub (ws' := [(fb, .inr (5, [.ref di, .ref gr, .ref re, .ref rl, .ref bu, .ref de])), (bu, .inr (0, [.ref bs, .int 0, .int 0, .int 0]))]) [0, 1] rfl) (hK.sub (tys' := []) [] rfl) (hD.sub (ws' := [(fb, .inr (5, [.ref di, .ref gr, .ref re, .ref rl, .ref bu, .ref de])), (bu, .inr (0, [.ref bs, .int 0, .int 0, .int 0]))]) [0, 1] (by decide) rfl) hS (Nat.le_of_ble_eq_true rfl) (Nat.le_of_ble_eq_true rfl)
theorem d_FB_refuseUnknownEdge_0 : decode b_FB_refuseUnknownEdge 0 = .ok (.aload_n 0, 1) := by decide +kernel
theorem d_FB_refuseUnknownEdge_1 : decode b_FB_refuseUnknownEdge 1 = .ok (.getfield 19, 3) := by decide +kernel
theorem d_FB_refuseUnknownEdge_4 : decode b_FB_refuseUnknownEdge 4 = .ok (.iload_n 1, 1) := by decide +kernel
theorem d_FB_refuseUnknownEdge_5 : decode b_FB_refuseUnknownEdge 5 = .ok (.invokevirtual 89, 3) := by decide +kernel
theorem d_FB_refuseUnknownEdge_8 : decode b_FB_refuseUnknownEdge 8 = .ok (.ifCond .ne (13), 3) := by decide +kernel
theorem d_FB_refuseUnknownEdge_11 : decode b_FB_refuseUnknownEdge 11 = .ok (.new 65, 3) := by decide +kernel
theorem d_FB_refuseUnknownEdge_14 : decode b_FB_refuseUnknownEdge 14 = .ok (.dup, 1) := by decide +kernel
theorem d_FB_refuseUnknownEdge_15 : decode b_FB_refuseUnknownEdge 15 = .ok (.ldc 247, 2) := by decide +kernel
theorem d_FB_refuseUnknownEdge_17 : decode b_FB_refuseUnknownEdge 17 = .ok (.invokespecial 69, 3) := by decide +kernel
theorem d_FB_refuseUnknownEdge_20 : decode b_FB_refuseUnknownEdge 20 = .ok (.athrow, 1) := by decide +kernel
set_option maxRecDepth 20000 in
set_option maxHeartbeats 4000000 in
theorem c_FB_refuseUnknownEdge (l : Launch) (hfl : l.flags = pinnedFlags ++ [noTraceFlag]) (D : va_G) (fb : Nat) (gr : Nat) (di : Nat) (re : Nat) (rl : Nat) (bu : Nat) (de : Nat) (gc : Nat) (gf : Nat) (gp : Nat) (gb : Nat) (gl : Nat) (x : Int32) (sz : Nat)  : xMt l y_FB_refuseUnknownEdge w_FB_refuseUnknownEdge { frames := 6, cells := 1, slots := 6, locals := 90 } D cl [.ref fb, .int x] sz [] [(fb, .inr (5, [.ref di, .ref gr, .ref re, .ref rl, .ref bu, .ref de])), (gr, .inr (2, [.ref gc, .ref gf, .ref gp, .ref gb, .ref gl, .int 0]))] "java/lang/IllegalArgumentException" := by
  refine xMt_of (by decide +kernel) rfl (Nat.le_of_ble_eq_true rfl) ?_
  intro p e s m args below meth c ls A B hAe hA hsz hP hK hD hS hAm hTh hAs hl
  obtain ⟨⟨hx, hb, hml, hown, hts⟩, hret, hlk, hnm, hemp⟩ := id B
  have hl : lv_has ls 2 [(0, .ref fb), (1, .int x)] := hl
  refine lv_aload_n hx hb d_FB_refuseUnknownEdge_0 rfl (lv_at hl 0 rfl) ?_
  refine va_get (D := D) (ci := 5) (v := .ref gr) (C := R_FB) (T := F_FB) (N := 6) hx hb hts (fun w h => List.mem_cons_of_mem _ (u_FB w h)) hown hK hP 0 rfl rfl 1 (by decide) (hts _ (List.mem_cons_of_mem _ tw_147)) (fun _ h9 => h9) rfl d_FB_refuseUnknownEdge_1 ?_
  refine lv_iload_n hx hb d_FB_refuseUnknownEdge_4 rfl (lv_at hl 1 rfl) ?_
  have hPc := hP.sub (ws' := [(gr, .inr (2, [.ref gc, .ref gf, .ref gp, .ref gb, .ref gl, .int 0]))]) [1] rfl
  have hDc := hD.sub (ws' := [(gr, .inr (2, [.ref gc, .ref gf, .ref gp, .ref gb, .ref gl, .int 0]))]) [1] (by decide) rfl
  have hKc := hK.sub (tys' := []) [] rfl
  refine xgi (wsC := [(gr, .inr (2, [.ref gc, .ref gf, .ref gp, .ref gb, .ref gl, .int 0]))]) (wr := [(fb, .inr (5, [.ref di, .ref gr, .ref re, .ref rl, .ref bu, .ref de]))]) (va_runVN (As := [.int x]) (rest := []) ⟨hx, hb, hml, hown, hts⟩ (c_Gr_hasEdge l  D gr gc gf gp gb gl x _ ) ⟨(va_cnB 1 hts (x_good k_Gr_hasEdge) rfl rfl rfl (hAm.1 _ (List.mem_of_getElem? (i := 38) rfl)) (hts _ (List.mem_cons_of_mem _ tw_3)) (by decide +kernel) ⟨Nat.le_of_ble_eq_true rfl, Nat.le_of_ble_eq_true rfl⟩), (hts _ (List.mem_cons_of_mem _ tw_347)), (hts _ (List.mem_cons_of_mem _ (x_sel 14 rfl)))⟩ (xP_V (va_recv (ci := 2) (q0 := 1) hK hP rfl rfl) hPc hKc hDc hAm hTh hAs hS) rfl rfl hl.1 rfl (lv_room (Nat.le_of_ble_eq_true rfl)) d_FB_refuseUnknownEdge_5 ⟨Nat.le_of_ble_eq_true rfl, Nat.le_of_ble_eq_true rfl⟩) hP hD hK hS hA [1] [0] rfl rfl (by decide) (by decide) (fun r1 _ H locs er1 hP hD hK hS => ?_)
  have er1 : r1 = 0 := er1
  subst er1
  have hK : va_K D cl [] s := hK
  have hP : va_P D cl [(fb, .inr (5, [.ref di, .ref gr, .ref re, .ref rl, .ref bu, .ref de])), (gr, .inr (2, [.ref gc, .ref gf, .ref gp, .ref gb, .ref gl, .int 0]))] H := hP
  have hD : va_D A [(fb, .inr (5, [.ref di, .ref gr, .ref re, .ref rl, .ref bu, .ref de])), (gr, .inr (2, [.ref gc, .ref gf, .ref gp, .ref gb, .ref gl, .int 0]))] := hD
  refine lv_if_ne (tgt := 21) hx hb d_FB_refuseUnknownEdge_8 (by decide) (fun b8 => absurd b8 (by decide)) (fun b8 => ?_)
  obtain ⟨qz, hZ⟩ := hAm.2.1 _ (List.mem_of_getElem? (i := 16) rfl)
  exact xt_throw hx hb (hml.trans hl.1.symm) hfl hlk hemp (names := ["java/lang/RuntimeException", "java/lang/Exception"]) hown (hts _ (List.mem_cons_of_mem _ tw_249)) (hts _ (List.mem_cons_of_mem _ tw_250)) (hts _ (List.mem_cons_of_mem _ tw_12)) (by decide +kernel) (by decide +kernel) (xOwn own_IAE hts hAm hTh) hZ hS hAs (Nat.le_of_ble_eq_true rfl) (Nat.le_of_ble_eq_true rfl) (Nat.le_of_ble_eq_true rfl) (Nat.le_of_ble_eq_true rfl) (by decide) (Nat.le_of_ble_eq_true rfl) d_FB_refuseUnknownEdge_11 d_FB_refuseUnknownEdge_14 d_FB_refuseUnknownEdge_15 d_FB_refuseUnknownEdge_17 d_FB_refuseUnknownEdge_20
end
section
def xFl (x : Int32) : Int32 := if xIn x 0 15 = 1 ∧ (x &&& 1 = 0 ∨ x = 1) then 1 else 0
theorem xFl_1a {x : Int32} (h : ¬ xIn x 0 15 = 0) (h2 : x &&& 1 = 0) : (1 : Int32) = xFl x := by
  unfold xFl
  rw [if_pos ⟨xne0 (xIn_bin _ _ _) h, Or.inl h2⟩]
theorem xFl_1b {x : Int32} (h : ¬ xIn x 0 15 = 0) (h2 : x = 1) : (1 : Int32) = xFl x := by
  unfold xFl
  rw [if_pos ⟨xne0 (xIn_bin _ _ _) h, Or.inr h2⟩]
theorem xFl_0a {x : Int32} (h : xIn x 0 15 = 0) : (0 : Int32) = xFl x := by
  unfold xFl
  rw [if_neg (fun q => xne1 q.1 h)]
theorem xFl_0b {x : Int32} (h : ¬ x &&& 1 = 0) (h2 : ¬ x = 1) : (0 : Int32) = xFl x := by
  unfold xFl
  rw [if_neg (fun q => q.2.elim h h2)]
theorem xFl_bin (x : Int32) : xFl x = 0 ∨ xFl x = 1 := by
  unfold xFl
  by_cases h : xIn x 0 15 = 1 ∧ (x &&& 1 = 0 ∨ x = 1)
  · rw [if_pos h]; exact Or.inr rfl
  · rw [if_neg h]; exact Or.inl rfl
theorem xhas0 (f : Int32) : ((0 : Int32).toUInt32 >>> (f.toUInt32 &&& Int32.toUInt32 31)).toInt32 &&& 1 = 0 := by
  have h : (0 : Int32).toUInt32 >>> (f.toUInt32 &&& Int32.toUInt32 31) = 0 := by
    apply UInt32.toBitVec_inj.mp
    simp
  rw [h]
  decide
theorem xand1 (x : Int32) : (x &&& (-1)) &&& (-1) = x := by
  apply Int32.toBitVec_inj.mp
  simp
theorem xor0 (x : Int32) : x ||| 0 = x := by
  apply Int32.toBitVec_inj.mp
  simp
theorem xIn_in2 {x lo hi : Int32} {n : Nat} (h : xIn x lo hi = 1) (h0 : 0 ≤ lo.toInt) (hn : hi.toInt + 1 ≤ n) : vp_in x n := by
  rw [vp_in_iff]
  obtain ⟨h1, h2⟩ := xIn_ge h
  simp only [Int32.le_iff_toInt_le] at h1 h2
  omega
def xokE (c f p : Int32) : Prop := xIn c 0 65535 = 1 ∧ xFl f = 1 ∧ xIn p 0 2 = 1
def xokB (t j k : Int32) : Prop := ¬ t = 0 ∧ t &&& (-16777216) = 0 ∧ xIn j 1 4 = 1 ∧ xIn k 1 4 = 1
theorem d_FB_areFlags_0 : decode b_FB_areFlags 0 = .ok (.iload_n 0, 1) := by decide +kernel
theorem d_FB_areFlags_1 : decode b_FB_areFlags 1 = .ok (.iconst (0), 1) := by decide +kernel
theorem d_FB_areFlags_2 : decode b_FB_areFlags 2 = .ok (.bipush (15), 2) := by decide +kernel
theorem d_FB_areFlags_4 : decode b_FB_areFlags 4 = .ok (.invokestatic 61, 3) := by decide +kernel
theorem d_FB_areFlags_7 : decode b_FB_areFlags 7 = .ok (.ifCond .eq (18), 3) := by decide +kernel
theorem d_FB_areFlags_10 : decode b_FB_areFlags 10 = .ok (.iload_n 0, 1) := by decide +kernel
theorem d_FB_areFlags_11 : decode b_FB_areFlags 11 = .ok (.iconst (1), 1) := by decide +kernel
theorem d_FB_areFlags_12 : decode b_FB_areFlags 12 = .ok (.iand, 1) := by decide +kernel
theorem d_FB_areFlags_13 : decode b_FB_areFlags 13 = .ok (.ifCond .eq (8), 3) := by decide +kernel
theorem d_FB_areFlags_16 : decode b_FB_areFlags 16 = .ok (.iload_n 0, 1) := by decide +kernel
theorem d_FB_areFlags_17 : decode b_FB_areFlags 17 = .ok (.iconst (1), 1) := by decide +kernel
theorem d_FB_areFlags_18 : decode b_FB_areFlags 18 = .ok (.if_icmp .ne (7), 3) := by decide +kernel
theorem d_FB_areFlags_21 : decode b_FB_areFlags 21 = .ok (.iconst (1), 1) := by decide +kernel
theorem d_FB_areFlags_22 : decode b_FB_areFlags 22 = .ok (.goto (4), 3) := by decide +kernel
theorem d_FB_areFlags_25 : decode b_FB_areFlags 25 = .ok (.iconst (0), 1) := by decide +kernel
theorem d_FB_areFlags_26 : decode b_FB_areFlags 26 = .ok (.ireturn, 1) := by decide +kernel
set_option maxRecDepth 20000 in
set_option maxHeartbeats 4000000 in
theorem c_FB_areFlags (l : Launch) (D : va_G) (x : Int32) (sz : Nat)  : xMi l y_FB_areFlags w_FB_areFlags { frames := 1, cells := 0, slots := 0, locals := 22 } D cl [.int x] sz [] [] (fun (r : Int32) (_ : Unit) => r = xFl x) (fun _ => []) (fun _ => []) := by
  refine xMi_of (by decide +kernel) rfl (Nat.le_of_ble_eq_true rfl) ?_
  intro p e s m args below meth c ls A B hAe hA hsz hP hK hD hS hAm hTh hAs hl
  obtain ⟨⟨hx, hb, hml, hown, hts⟩, hret, hlk, hnm, hemp⟩ := id B
  have hl : lv_has ls 1 [(0, .int x)] := hl
  refine lv_iload_n hx hb d_FB_areFlags_0 rfl (lv_at hl 0 rfl) ?_
  refine lv_iconst (v := 0) hx hb d_FB_areFlags_1 (by decide) ?_
  refine lv_bipush (v := 15) hx hb d_FB_areFlags_2 (by decide) ?_
  have hPc := hP.sub (ws' := []) [] rfl
  have hDc := hD.sub (ws' := []) [] (by decide) rfl
  have hKc := hK.sub (tys' := []) [] rfl
  refine xgi (wsC := []) (wr := []) (va_runS (As := [.int x, .int 0, .int 15]) (rest := []) ⟨hx, hb, hml, hown, hts⟩ (c_FB_isIn l  D x 0 15 _ ) ⟨(callB_of 3 hts (x_good k_FB_isIn) rfl rfl rfl (hts _ (List.mem_cons_of_mem _ tw_1)) (hts _ (List.mem_cons_of_mem _ tw_245)) (by decide +kernel) ⟨Nat.le_of_ble_eq_true rfl, Nat.le_of_ble_eq_true rfl⟩), (hts _ (List.mem_cons_of_mem _ tw_226))⟩ (xP_S hPc hKc hDc hAm hTh hAs hS) rfl rfl hl.1 rfl (lv_room (Nat.le_of_ble_eq_true rfl)) d_FB_areFlags_4 ⟨Nat.le_of_ble_eq_true rfl, Nat.le_of_ble_eq_true rfl⟩) hP hD hK hS hA [] [] rfl rfl (by decide) (by decide) (fun r1 _ H locs er1 hP hD hK hS => ?_)
  have er1 : r1 = xIn x 0 15 := er1
  subst er1
  have hK : va_K D cl [] s := hK
  have hP : va_P D cl [] H := hP
  have hD : va_D A [] := hD
  refine lv_if_eq (tgt := 25) hx hb d_FB_areFlags_7 (by decide) (fun b7 => ?_) (fun b7 => ?_)
  · refine lv_iconst (v := 0) hx hb d_FB_areFlags_25 (by decide) ?_
    exact xrz () B d_FB_areFlags_26 (rfl) ((by first | exact xFl_1a b7 b13 | exact xFl_1b b7 b18 | exact xFl_0a b7 | exact xFl_0b b13 b18)) (hP.sub (ws' := []) [] rfl) (hK.sub (tys' := []) [] rfl) (hD.sub (ws' := []) [] (by decide) rfl) hS (Nat.le_of_ble_eq_true rfl) (Nat.le_of_ble_eq_true rfl)
  · refine lv_iload_n hx hb d_FB_areFlags_10 rfl (lv_at hl 0 rfl) ?_
    refine lv_iconst (v := 1) hx hb d_FB_areFlags_11 (by decide) ?_
    refine lv_iand hx hb d_FB_areFlags_12 ?_
    refine lv_if_eq (tgt := 21) hx hb d_FB_areFlags_13 (by decide) (fun b13 => ?_) (fun b13 => ?_)
    · refine lv_iconst (v := 1) hx hb d_FB_areFlags_21 (by decide) ?_
      refine lv_goto (tgt := 26) hx hb d_FB_areFlags_22 (by decide) ?_
      exact xrz () B d_FB_areFlags_26 (rfl) ((by first | exact xFl_1a b7 b13 | exact xFl_1b b7 b18 | exact xFl_0a b7 | exact xFl_0b b13 b18)) (hP.sub (ws' := []) [] rfl) (hK.sub (tys' := []) [] rfl) (hD.sub (ws' := []) [] (by decide) rfl) hS (Nat.le_of_ble_eq_true rfl) (Nat.le_of_ble_eq_true rfl)
    · refine lv_iload_n hx hb d_FB_areFlags_16 rfl (lv_at hl 0 rfl) ?_
      refine lv_iconst (v := 1) hx hb d_FB_areFlags_17 (by decide) ?_
      refine lv_icmp_ne (tgt := 25) hx hb d_FB_areFlags_18 (by decide) (fun b18 => ?_) (fun b18 => ?_)
      · refine lv_iconst (v := 0) hx hb d_FB_areFlags_25 (by decide) ?_
        exact xrz () B d_FB_areFlags_26 (rfl) ((by first | exact xFl_1a b7 b13 | exact xFl_1b b7 b18 | exact xFl_0a b7 | exact xFl_0b b13 b18)) (hP.sub (ws' := []) [] rfl) (hK.sub (tys' := []) [] rfl) (hD.sub (ws' := []) [] (by decide) rfl) hS (Nat.le_of_ble_eq_true rfl) (Nat.le_of_ble_eq_true rfl)
      · refine lv_iconst (v := 1) hx hb d_FB_areFlags_21 (by decide) ?_
        refine lv_goto (tgt := 26) hx hb d_FB_areFlags_22 (by decide) ?_
        exact xrz () B d_FB_areFlags_26 (rfl) ((by first | exact xFl_1a b7 b13 | exact xFl_1b b7 b18 | exact xFl_0a b7 | exact xFl_0b b13 b18)) (hP.sub (ws' := []) [] rfl) (hK.sub (tys' := []) [] rfl) (hD.sub (ws' := []) [] (by decide) rfl) hS (Nat.le_of_ble_eq_true rfl) (Nat.le_of_ble_eq_true rfl)
theorem d_FB_has_0 : decode b_FB_has 0 = .ok (.iload_n 0, 1) := by decide +kernel
theorem d_FB_has_1 : decode b_FB_has 1 = .ok (.iload_n 1, 1) := by decide +kernel
theorem d_FB_has_2 : decode b_FB_has 2 = .ok (.iushr, 1) := by decide +kernel
theorem d_FB_has_3 : decode b_FB_has 3 = .ok (.iconst (1), 1) := by decide +kernel
theorem d_FB_has_4 : decode b_FB_has 4 = .ok (.iand, 1) := by decide +kernel
theorem d_FB_has_5 : decode b_FB_has 5 = .ok (.ifCond .eq (7), 3) := by decide +kernel
theorem d_FB_has_12 : decode b_FB_has 12 = .ok (.iconst (0), 1) := by decide +kernel
theorem d_FB_has_13 : decode b_FB_has 13 = .ok (.ireturn, 1) := by decide +kernel
set_option maxRecDepth 20000 in
set_option maxHeartbeats 4000000 in
theorem c_FB_has (l : Launch) (D : va_G) (f : Int32) (sz : Nat)  : xMi l y_FB_has w_FB_has { frames := 0, cells := 0, slots := 0, locals := 0 } D cl [.int 0, .int f] sz [] [] (fun (r : Int32) (_ : Unit) => r = 0) (fun _ => []) (fun _ => []) := by
  refine xMi_of (by decide +kernel) rfl (Nat.le_of_ble_eq_true rfl) ?_
  intro p e s m args below meth c ls A B hAe hA hsz hP hK hD hS hAm hTh hAs hl
  obtain ⟨⟨hx, hb, hml, hown, hts⟩, hret, hlk, hnm, hemp⟩ := id B
  have hl : lv_has ls 2 [(0, .int 0), (1, .int f)] := hl
  refine lv_iload_n hx hb d_FB_has_0 rfl (lv_at hl 0 rfl) ?_
  refine lv_iload_n hx hb d_FB_has_1 rfl (lv_at hl 1 rfl) ?_
  refine lv_iushr hx hb d_FB_has_2 rfl ?_
  refine lv_iconst (v := 1) hx hb d_FB_has_3 (by decide) ?_
  refine lv_iand hx hb d_FB_has_4 ?_
  refine lv_if_eq (tgt := 12) hx hb d_FB_has_5 (by decide) (fun b5 => ?_) (fun b5 => absurd (xhas0 f) b5)
  refine lv_iconst (v := 0) hx hb d_FB_has_12 (by decide) ?_
  exact xrz () B d_FB_has_13 (rfl) (rfl) (hP.sub (ws' := []) [] rfl) (hK.sub (tys' := []) [] rfl) (hD.sub (ws' := []) [] (by decide) rfl) hS (Nat.le_of_ble_eq_true rfl) (Nat.le_of_ble_eq_true rfl)
theorem d_Gr_addEdge_0 : decode b_Gr_addEdge 0 = .ok (.aload_n 0, 1) := by decide +kernel
theorem d_Gr_addEdge_1 : decode b_Gr_addEdge 1 = .ok (.getfield 29, 3) := by decide +kernel
theorem d_Gr_addEdge_4 : decode b_Gr_addEdge 4 = .ok (.istore 4, 2) := by decide +kernel
theorem d_Gr_addEdge_6 : decode b_Gr_addEdge 6 = .ok (.aload_n 0, 1) := by decide +kernel
theorem d_Gr_addEdge_7 : decode b_Gr_addEdge 7 = .ok (.getfield 9, 3) := by decide +kernel
theorem d_Gr_addEdge_10 : decode b_Gr_addEdge 10 = .ok (.iload 4, 2) := by decide +kernel
theorem d_Gr_addEdge_12 : decode b_Gr_addEdge 12 = .ok (.iload_n 1, 1) := by decide +kernel
theorem d_Gr_addEdge_13 : decode b_Gr_addEdge 13 = .ok (.iastore, 1) := by decide +kernel
theorem d_Gr_addEdge_14 : decode b_Gr_addEdge 14 = .ok (.aload_n 0, 1) := by decide +kernel
theorem d_Gr_addEdge_15 : decode b_Gr_addEdge 15 = .ok (.getfield 15, 3) := by decide +kernel
theorem d_Gr_addEdge_18 : decode b_Gr_addEdge 18 = .ok (.iload 4, 2) := by decide +kernel
theorem d_Gr_addEdge_20 : decode b_Gr_addEdge 20 = .ok (.iload_n 2, 1) := by decide +kernel
theorem d_Gr_addEdge_21 : decode b_Gr_addEdge 21 = .ok (.iastore, 1) := by decide +kernel
theorem d_Gr_addEdge_22 : decode b_Gr_addEdge 22 = .ok (.aload_n 0, 1) := by decide +kernel
theorem d_Gr_addEdge_23 : decode b_Gr_addEdge 23 = .ok (.getfield 18, 3) := by decide +kernel
theorem d_Gr_addEdge_26 : decode b_Gr_addEdge 26 = .ok (.iload 4, 2) := by decide +kernel
theorem d_Gr_addEdge_28 : decode b_Gr_addEdge 28 = .ok (.iload_n 3, 1) := by decide +kernel
theorem d_Gr_addEdge_29 : decode b_Gr_addEdge 29 = .ok (.iastore, 1) := by decide +kernel
theorem d_Gr_addEdge_30 : decode b_Gr_addEdge 30 = .ok (.aload_n 0, 1) := by decide +kernel
theorem d_Gr_addEdge_31 : decode b_Gr_addEdge 31 = .ok (.dup, 1) := by decide +kernel
theorem d_Gr_addEdge_32 : decode b_Gr_addEdge 32 = .ok (.getfield 29, 3) := by decide +kernel
theorem d_Gr_addEdge_35 : decode b_Gr_addEdge 35 = .ok (.iconst (1), 1) := by decide +kernel
theorem d_Gr_addEdge_36 : decode b_Gr_addEdge 36 = .ok (.iadd, 1) := by decide +kernel
theorem d_Gr_addEdge_37 : decode b_Gr_addEdge 37 = .ok (.putfield 29, 3) := by decide +kernel
theorem d_Gr_addEdge_40 : decode b_Gr_addEdge 40 = .ok (.iload 4, 2) := by decide +kernel
theorem d_Gr_addEdge_42 : decode b_Gr_addEdge 42 = .ok (.ireturn, 1) := by decide +kernel
set_option maxRecDepth 20000 in
set_option maxHeartbeats 4000000 in
theorem c_Gr_addEdge (l : Launch) (D : va_G) (gr : Nat) (gc : Nat) (gf : Nat) (gp : Nat) (gb : Nat) (gl : Nat) (cI : ClassId) (x : Int32) (y : Int32) (z : Int32) (sz : Nat)  : xMi l y_Gr_addEdge w_Gr_addEdge { frames := 0, cells := 0, slots := 0, locals := 0 } D cl [.ref gr, .int x, .int y, .int z] sz [(cI, .int)] [(gr, .inr (2, [.ref gc, .ref gf, .ref gp, .ref gb, .ref gl, .int 0])), (gc, .inl (cI, 12, .inl (fun _ => 0))), (gf, .inl (cI, 12, .inl (fun _ => 0))), (gp, .inl (cI, 12, .inl (fun _ => 0)))] (fun (r : Int32) (_ : Unit) => r = 0) (fun _ => []) (fun _ => []) := by
  refine xMi_of (by decide +kernel) rfl (Nat.le_of_ble_eq_true rfl) ?_
  intro p e s m args below meth c ls A B hAe hA hsz hP hK hD hS hAm hTh hAs hl
  obtain ⟨⟨hx, hb, hml, hown, hts⟩, hret, hlk, hnm, hemp⟩ := id B
  have hl : lv_has ls 5 [(0, .ref gr), (1, .int x), (2, .int y), (3, .int z)] := hl
  refine lv_aload_n hx hb d_Gr_addEdge_0 rfl (lv_at hl 0 rfl) ?_
  refine va_get (D := D) (ci := 2) (v := .int 0) (C := R_Gr) (T := F_Gr) (N := 6) hx hb hts (fun w h => List.mem_cons_of_mem _ (u_Gr w h)) hown hK hP 0 rfl rfl 5 (by decide) (hts _ (List.mem_cons_of_mem _ tw_65)) (fun _ h9 => h9) rfl d_Gr_addEdge_1 ?_
  refine lv_istore hx hb d_Gr_addEdge_4 hl (by decide) rfl (fun ls hl => ?_)
  have hl : lv_has ls 5 [(4, .int 0), (0, .ref gr), (1, .int x), (2, .int y), (3, .int z)] := hl
  refine lv_aload_n hx hb d_Gr_addEdge_6 rfl (lv_at hl 1 rfl) ?_
  refine va_get (D := D) (ci := 2) (v := .ref gc) (C := R_Gr) (T := F_Gr) (N := 6) hx hb hts (fun w h => List.mem_cons_of_mem _ (u_Gr w h)) hown hK hP 0 rfl rfl 0 (by decide) (hts _ (List.mem_cons_of_mem _ tw_56)) (fun _ h9 => h9) rfl d_Gr_addEdge_7 ?_
  refine lv_iload hx hb d_Gr_addEdge_10 (lv_at hl 0 rfl) ?_
  refine lv_iload_n hx hb d_Gr_addEdge_12 rfl (lv_at hl 2 rfl) ?_
  refine va_iast hx hb hK hP hD hS 1 0 rfl rfl (by unfold vp_in; decide) d_Gr_addEdge_13 (fun H locs hP hD hS => ?_)
  have hP : va_P D cl [(gr, .inr (2, [.ref gc, .ref gf, .ref gp, .ref gb, .ref gl, .int 0])), (gc, .inl (cI, 12, .inl (upd (fun _ => 0) (0 : Int32).toNatClampNeg x))), (gf, .inl (cI, 12, .inl (fun _ => 0))), (gp, .inl (cI, 12, .inl (fun _ => 0)))] H := hP
  have hD : va_D A [(gr, .inr (2, [.ref gc, .ref gf, .ref gp, .ref gb, .ref gl, .int 0])), (gc, .inl (cI, 12, .inl (upd (fun _ => 0) (0 : Int32).toNatClampNeg x))), (gf, .inl (cI, 12, .inl (fun _ => 0))), (gp, .inl (cI, 12, .inl (fun _ => 0)))] := hD
  refine lv_aload_n hx hb d_Gr_addEdge_14 rfl (lv_at hl 1 rfl) ?_
  refine va_get (D := D) (ci := 2) (v := .ref gf) (C := R_Gr) (T := F_Gr) (N := 6) hx hb hts (fun w h => List.mem_cons_of_mem _ (u_Gr w h)) hown hK hP 0 rfl rfl 1 (by decide) (hts _ (List.mem_cons_of_mem _ tw_58)) (fun _ h9 => h9) rfl d_Gr_addEdge_15 ?_
  refine lv_iload hx hb d_Gr_addEdge_18 (lv_at hl 0 rfl) ?_
  refine lv_iload_n hx hb d_Gr_addEdge_20 rfl (lv_at hl 3 rfl) ?_
  refine va_iast hx hb hK hP hD hS 2 0 rfl rfl (by unfold vp_in; decide) d_Gr_addEdge_21 (fun H locs hP hD hS => ?_)
  have hP : va_P D cl [(gr, .inr (2, [.ref gc, .ref gf, .ref gp, .ref gb, .ref gl, .int 0])), (gc, .inl (cI, 12, .inl (upd (fun _ => 0) (0 : Int32).toNatClampNeg x))), (gf, .inl (cI, 12, .inl (upd (fun _ => 0) (0 : Int32).toNatClampNeg y))), (gp, .inl (cI, 12, .inl (fun _ => 0)))] H := hP
  have hD : va_D A [(gr, .inr (2, [.ref gc, .ref gf, .ref gp, .ref gb, .ref gl, .int 0])), (gc, .inl (cI, 12, .inl (upd (fun _ => 0) (0 : Int32).toNatClampNeg x))), (gf, .inl (cI, 12, .inl (upd (fun _ => 0) (0 : Int32).toNatClampNeg y))), (gp, .inl (cI, 12, .inl (fun _ => 0)))] := hD
  refine lv_aload_n hx hb d_Gr_addEdge_22 rfl (lv_at hl 1 rfl) ?_
  refine va_get (D := D) (ci := 2) (v := .ref gp) (C := R_Gr) (T := F_Gr) (N := 6) hx hb hts (fun w h => List.mem_cons_of_mem _ (u_Gr w h)) hown hK hP 0 rfl rfl 2 (by decide) (hts _ (List.mem_cons_of_mem _ tw_59)) (fun _ h9 => h9) rfl d_Gr_addEdge_23 ?_
  refine lv_iload hx hb d_Gr_addEdge_26 (lv_at hl 0 rfl) ?_
  refine lv_iload_n hx hb d_Gr_addEdge_28 rfl (lv_at hl 4 rfl) ?_
  refine va_iast hx hb hK hP hD hS 3 0 rfl rfl (by unfold vp_in; decide) d_Gr_addEdge_29 (fun H locs hP hD hS => ?_)
  have hP : va_P D cl [(gr, .inr (2, [.ref gc, .ref gf, .ref gp, .ref gb, .ref gl, .int 0])), (gc, .inl (cI, 12, .inl (upd (fun _ => 0) (0 : Int32).toNatClampNeg x))), (gf, .inl (cI, 12, .inl (upd (fun _ => 0) (0 : Int32).toNatClampNeg y))), (gp, .inl (cI, 12, .inl (upd (fun _ => 0) (0 : Int32).toNatClampNeg z)))] H := hP
  have hD : va_D A [(gr, .inr (2, [.ref gc, .ref gf, .ref gp, .ref gb, .ref gl, .int 0])), (gc, .inl (cI, 12, .inl (upd (fun _ => 0) (0 : Int32).toNatClampNeg x))), (gf, .inl (cI, 12, .inl (upd (fun _ => 0) (0 : Int32).toNatClampNeg y))), (gp, .inl (cI, 12, .inl (upd (fun _ => 0) (0 : Int32).toNatClampNeg z)))] := hD
  refine lv_aload_n hx hb d_Gr_addEdge_30 rfl (lv_at hl 1 rfl) ?_
  refine lv_dup hx hb d_Gr_addEdge_31 rfl ?_
  refine va_get (D := D) (ci := 2) (v := .int 0) (C := R_Gr) (T := F_Gr) (N := 6) hx hb hts (fun w h => List.mem_cons_of_mem _ (u_Gr w h)) hown hK hP 0 rfl rfl 5 (by decide) (hts _ (List.mem_cons_of_mem _ tw_65)) (fun _ h9 => h9) rfl d_Gr_addEdge_32 ?_
  refine lv_iconst (v := 1) hx hb d_Gr_addEdge_35 (by decide) ?_
  refine lv_iadd hx hb d_Gr_addEdge_36 ?_
  refine xnum (v := 1) (by decide) ?_
  refine va_put (D := D) (ci := 2) (v := .int 1) (ty := .int) (C := R_Gr) (T := F_Gr) (N := 6) hx hb hts (fun w h => List.mem_cons_of_mem _ (u_Gr w h)) t_Gr o_Gr n_Gr hown hK hP hD hS 0 rfl rfl 5 (by decide) (hts _ (List.mem_cons_of_mem _ tw_65)) (fun _ h9 => h9) rfl (by decide +kernel) rfl rfl (Nat.le_of_ble_eq_true rfl) d_Gr_addEdge_37 (fun H locs hP hD hS => ?_)
  have hP : va_P D cl [(gr, .inr (2, [.ref gc, .ref gf, .ref gp, .ref gb, .ref gl, .int 1])), (gc, .inl (cI, 12, .inl (upd (fun _ => 0) (0 : Int32).toNatClampNeg x))), (gf, .inl (cI, 12, .inl (upd (fun _ => 0) (0 : Int32).toNatClampNeg y))), (gp, .inl (cI, 12, .inl (upd (fun _ => 0) (0 : Int32).toNatClampNeg z)))] H := hP
  have hD : va_D A [(gr, .inr (2, [.ref gc, .ref gf, .ref gp, .ref gb, .ref gl, .int 1])), (gc, .inl (cI, 12, .inl (upd (fun _ => 0) (0 : Int32).toNatClampNeg x))), (gf, .inl (cI, 12, .inl (upd (fun _ => 0) (0 : Int32).toNatClampNeg y))), (gp, .inl (cI, 12, .inl (upd (fun _ => 0) (0 : Int32).toNatClampNeg z)))] := hD
  refine lv_iload hx hb d_Gr_addEdge_40 (lv_at hl 0 rfl) ?_
  exact xri () B d_Gr_addEdge_42 (rfl) (hP.sub (ws' := []) [] rfl) (hK.sub (tys' := []) [] rfl) (hD.sub (ws' := []) [] (by decide) rfl) hS (Nat.le_of_ble_eq_true rfl) (Nat.le_of_ble_eq_true rfl)
theorem d_Gr_made_0 : decode b_Gr_made 0 = .ok (.iconst (0), 1) := by decide +kernel
theorem d_Gr_made_1 : decode b_Gr_made 1 = .ok (.istore_n 1, 1) := by decide +kernel
theorem d_Gr_made_2 : decode b_Gr_made 2 = .ok (.iconst (0), 1) := by decide +kernel
theorem d_Gr_made_3 : decode b_Gr_made 3 = .ok (.istore_n 2, 1) := by decide +kernel
theorem d_Gr_made_4 : decode b_Gr_made 4 = .ok (.iload_n 2, 1) := by decide +kernel
theorem d_Gr_made_5 : decode b_Gr_made 5 = .ok (.aload_n 0, 1) := by decide +kernel
theorem d_Gr_made_6 : decode b_Gr_made 6 = .ok (.getfield 29, 3) := by decide +kernel
theorem d_Gr_made_9 : decode b_Gr_made 9 = .ok (.if_icmp .ge (20), 3) := by decide +kernel
theorem d_Gr_made_29 : decode b_Gr_made 29 = .ok (.iload_n 1, 1) := by decide +kernel
theorem d_Gr_made_30 : decode b_Gr_made 30 = .ok (.ireturn, 1) := by decide +kernel
set_option maxRecDepth 20000 in
set_option maxHeartbeats 4000000 in
theorem c_Gr_made (l : Launch) (D : va_G) (gr : Nat) (gc : Nat) (gf : Nat) (gp : Nat) (gb : Nat) (gl : Nat) (sz : Nat)  : xMi l y_Gr_made w_Gr_made { frames := 0, cells := 0, slots := 0, locals := 0 } D cl [.ref gr] sz [] [(gr, .inr (2, [.ref gc, .ref gf, .ref gp, .ref gb, .ref gl, .int 0]))] (fun (r : Int32) (_ : Unit) => r = 0) (fun _ => [(gr, .inr (2, [.ref gc, .ref gf, .ref gp, .ref gb, .ref gl, .int 0]))]) (fun _ => []) := by
  refine xMi_of (by decide +kernel) rfl (Nat.le_of_ble_eq_true rfl) ?_
  intro p e s m args below meth c ls A B hAe hA hsz hP hK hD hS hAm hTh hAs hl
  obtain ⟨⟨hx, hb, hml, hown, hts⟩, hret, hlk, hnm, hemp⟩ := id B
  have hl : lv_has ls 3 [(0, .ref gr)] := hl
  refine lv_iconst (v := 0) hx hb d_Gr_made_0 (by decide) ?_
  refine lv_istore_n hx hb d_Gr_made_1 rfl hl (by decide) rfl (fun ls hl => ?_)
  have hl : lv_has ls 3 [(1, .int 0), (0, .ref gr)] := hl
  refine lv_iconst (v := 0) hx hb d_Gr_made_2 (by decide) ?_
  refine lv_istore_n hx hb d_Gr_made_3 rfl hl (by decide) rfl (fun ls hl => ?_)
  have hl : lv_has ls 3 [(2, .int 0), (1, .int 0), (0, .ref gr)] := hl
  refine lv_iload_n hx hb d_Gr_made_4 rfl (lv_at hl 0 rfl) ?_
  refine lv_aload_n hx hb d_Gr_made_5 rfl (lv_at hl 2 rfl) ?_
  refine va_get (D := D) (ci := 2) (v := .int 0) (C := R_Gr) (T := F_Gr) (N := 6) hx hb hts (fun w h => List.mem_cons_of_mem _ (u_Gr w h)) hown hK hP 0 rfl rfl 5 (by decide) (hts _ (List.mem_cons_of_mem _ tw_65)) (fun _ h9 => h9) rfl d_Gr_made_6 ?_
  refine lv_icmp_ge (tgt := 29) hx hb d_Gr_made_9 (by decide) (fun b9 => ?_) (fun b9 => absurd b9 (by decide))
  refine lv_iload_n hx hb d_Gr_made_29 rfl (lv_at hl 1 rfl) ?_
  exact xri () B d_Gr_made_30 (rfl) (hP.sub (ws' := [(gr, .inr (2, [.ref gc, .ref gf, .ref gp, .ref gb, .ref gl, .int 0]))]) [0] rfl) (hK.sub (tys' := []) [] rfl) (hD.sub (ws' := [(gr, .inr (2, [.ref gc, .ref gf, .ref gp, .ref gb, .ref gl, .int 0]))]) [0] (by decide) rfl) hS (Nat.le_of_ble_eq_true rfl) (Nat.le_of_ble_eq_true rfl)
theorem d_Gr_madeByPhonies_0 : decode b_Gr_madeByPhonies 0 = .ok (.iconst (0), 1) := by decide +kernel
theorem d_Gr_madeByPhonies_1 : decode b_Gr_madeByPhonies 1 = .ok (.istore_n 1, 1) := by decide +kernel
theorem d_Gr_madeByPhonies_2 : decode b_Gr_madeByPhonies 2 = .ok (.iconst (0), 1) := by decide +kernel
theorem d_Gr_madeByPhonies_3 : decode b_Gr_madeByPhonies 3 = .ok (.istore_n 2, 1) := by decide +kernel
theorem d_Gr_madeByPhonies_4 : decode b_Gr_madeByPhonies 4 = .ok (.iload_n 2, 1) := by decide +kernel
theorem d_Gr_madeByPhonies_5 : decode b_Gr_madeByPhonies 5 = .ok (.aload_n 0, 1) := by decide +kernel
theorem d_Gr_madeByPhonies_6 : decode b_Gr_madeByPhonies 6 = .ok (.getfield 29, 3) := by decide +kernel
theorem d_Gr_madeByPhonies_9 : decode b_Gr_madeByPhonies 9 = .ok (.if_icmp .ge (28), 3) := by decide +kernel
theorem d_Gr_madeByPhonies_37 : decode b_Gr_madeByPhonies 37 = .ok (.iload_n 1, 1) := by decide +kernel
theorem d_Gr_madeByPhonies_38 : decode b_Gr_madeByPhonies 38 = .ok (.ireturn, 1) := by decide +kernel
set_option maxRecDepth 20000 in
set_option maxHeartbeats 4000000 in
theorem c_Gr_madeByPhonies (l : Launch) (D : va_G) (gr : Nat) (gc : Nat) (gf : Nat) (gp : Nat) (gb : Nat) (gl : Nat) (sz : Nat)  : xMi l y_Gr_madeByPhonies w_Gr_madeByPhonies { frames := 0, cells := 0, slots := 0, locals := 0 } D cl [.ref gr] sz [] [(gr, .inr (2, [.ref gc, .ref gf, .ref gp, .ref gb, .ref gl, .int 0]))] (fun (r : Int32) (_ : Unit) => r = 0) (fun _ => [(gr, .inr (2, [.ref gc, .ref gf, .ref gp, .ref gb, .ref gl, .int 0]))]) (fun _ => []) := by
  refine xMi_of (by decide +kernel) rfl (Nat.le_of_ble_eq_true rfl) ?_
  intro p e s m args below meth c ls A B hAe hA hsz hP hK hD hS hAm hTh hAs hl
  obtain ⟨⟨hx, hb, hml, hown, hts⟩, hret, hlk, hnm, hemp⟩ := id B
  have hl : lv_has ls 3 [(0, .ref gr)] := hl
  refine lv_iconst (v := 0) hx hb d_Gr_madeByPhonies_0 (by decide) ?_
  refine lv_istore_n hx hb d_Gr_madeByPhonies_1 rfl hl (by decide) rfl (fun ls hl => ?_)
  have hl : lv_has ls 3 [(1, .int 0), (0, .ref gr)] := hl
  refine lv_iconst (v := 0) hx hb d_Gr_madeByPhonies_2 (by decide) ?_
  refine lv_istore_n hx hb d_Gr_madeByPhonies_3 rfl hl (by decide) rfl (fun ls hl => ?_)
  have hl : lv_has ls 3 [(2, .int 0), (1, .int 0), (0, .ref gr)] := hl
  refine lv_iload_n hx hb d_Gr_madeByPhonies_4 rfl (lv_at hl 0 rfl) ?_
  refine lv_aload_n hx hb d_Gr_madeByPhonies_5 rfl (lv_at hl 2 rfl) ?_
  refine va_get (D := D) (ci := 2) (v := .int 0) (C := R_Gr) (T := F_Gr) (N := 6) hx hb hts (fun w h => List.mem_cons_of_mem _ (u_Gr w h)) hown hK hP 0 rfl rfl 5 (by decide) (hts _ (List.mem_cons_of_mem _ tw_65)) (fun _ h9 => h9) rfl d_Gr_madeByPhonies_6 ?_
  refine lv_icmp_ge (tgt := 37) hx hb d_Gr_madeByPhonies_9 (by decide) (fun b9 => ?_) (fun b9 => absurd b9 (by decide))
  refine lv_iload_n hx hb d_Gr_madeByPhonies_37 rfl (lv_at hl 1 rfl) ?_
  exact xri () B d_Gr_madeByPhonies_38 (rfl) (hP.sub (ws' := [(gr, .inr (2, [.ref gc, .ref gf, .ref gp, .ref gb, .ref gl, .int 0]))]) [0] rfl) (hK.sub (tys' := []) [] rfl) (hD.sub (ws' := [(gr, .inr (2, [.ref gc, .ref gf, .ref gp, .ref gb, .ref gl, .int 0]))]) [0] (by decide) rfl) hS (Nat.le_of_ble_eq_true rfl) (Nat.le_of_ble_eq_true rfl)
theorem d_Gr_makersOf_0 : decode b_Gr_makersOf 0 = .ok (.iconst (0), 1) := by decide +kernel
theorem d_Gr_makersOf_1 : decode b_Gr_makersOf 1 = .ok (.istore_n 2, 1) := by decide +kernel
theorem d_Gr_makersOf_2 : decode b_Gr_makersOf 2 = .ok (.iconst (0), 1) := by decide +kernel
theorem d_Gr_makersOf_3 : decode b_Gr_makersOf 3 = .ok (.istore_n 3, 1) := by decide +kernel
theorem d_Gr_makersOf_4 : decode b_Gr_makersOf 4 = .ok (.iload_n 3, 1) := by decide +kernel
theorem d_Gr_makersOf_5 : decode b_Gr_makersOf 5 = .ok (.aload_n 0, 1) := by decide +kernel
theorem d_Gr_makersOf_6 : decode b_Gr_makersOf 6 = .ok (.getfield 29, 3) := by decide +kernel
theorem d_Gr_makersOf_9 : decode b_Gr_makersOf 9 = .ok (.if_icmp .ge (28), 3) := by decide +kernel
theorem d_Gr_makersOf_37 : decode b_Gr_makersOf 37 = .ok (.iload_n 2, 1) := by decide +kernel
theorem d_Gr_makersOf_38 : decode b_Gr_makersOf 38 = .ok (.ireturn, 1) := by decide +kernel
set_option maxRecDepth 20000 in
set_option maxHeartbeats 4000000 in
theorem c_Gr_makersOf (l : Launch) (D : va_G) (gr : Nat) (gc : Nat) (gf : Nat) (gp : Nat) (gb : Nat) (gl : Nat) (x : Int32) (sz : Nat)  : xMi l y_Gr_makersOf w_Gr_makersOf { frames := 0, cells := 0, slots := 0, locals := 0 } D cl [.ref gr, .int x] sz [] [(gr, .inr (2, [.ref gc, .ref gf, .ref gp, .ref gb, .ref gl, .int 0]))] (fun (r : Int32) (_ : Unit) => r = 0) (fun _ => [(gr, .inr (2, [.ref gc, .ref gf, .ref gp, .ref gb, .ref gl, .int 0]))]) (fun _ => []) := by
  refine xMi_of (by decide +kernel) rfl (Nat.le_of_ble_eq_true rfl) ?_
  intro p e s m args below meth c ls A B hAe hA hsz hP hK hD hS hAm hTh hAs hl
  obtain ⟨⟨hx, hb, hml, hown, hts⟩, hret, hlk, hnm, hemp⟩ := id B
  have hl : lv_has ls 4 [(0, .ref gr), (1, .int x)] := hl
  refine lv_iconst (v := 0) hx hb d_Gr_makersOf_0 (by decide) ?_
  refine lv_istore_n hx hb d_Gr_makersOf_1 rfl hl (by decide) rfl (fun ls hl => ?_)
  have hl : lv_has ls 4 [(2, .int 0), (0, .ref gr), (1, .int x)] := hl
  refine lv_iconst (v := 0) hx hb d_Gr_makersOf_2 (by decide) ?_
  refine lv_istore_n hx hb d_Gr_makersOf_3 rfl hl (by decide) rfl (fun ls hl => ?_)
  have hl : lv_has ls 4 [(3, .int 0), (2, .int 0), (0, .ref gr), (1, .int x)] := hl
  refine lv_iload_n hx hb d_Gr_makersOf_4 rfl (lv_at hl 0 rfl) ?_
  refine lv_aload_n hx hb d_Gr_makersOf_5 rfl (lv_at hl 2 rfl) ?_
  refine va_get (D := D) (ci := 2) (v := .int 0) (C := R_Gr) (T := F_Gr) (N := 6) hx hb hts (fun w h => List.mem_cons_of_mem _ (u_Gr w h)) hown hK hP 0 rfl rfl 5 (by decide) (hts _ (List.mem_cons_of_mem _ tw_65)) (fun _ h9 => h9) rfl d_Gr_makersOf_6 ?_
  refine lv_icmp_ge (tgt := 37) hx hb d_Gr_makersOf_9 (by decide) (fun b9 => ?_) (fun b9 => absurd b9 (by decide))
  refine lv_iload_n hx hb d_Gr_makersOf_37 rfl (lv_at hl 1 rfl) ?_
  exact xri () B d_Gr_makersOf_38 (rfl) (hP.sub (ws' := [(gr, .inr (2, [.ref gc, .ref gf, .ref gp, .ref gb, .ref gl, .int 0]))]) [0] rfl) (hK.sub (tys' := []) [] rfl) (hD.sub (ws' := [(gr, .inr (2, [.ref gc, .ref gf, .ref gp, .ref gb, .ref gl, .int 0]))]) [0] (by decide) rfl) hS (Nat.le_of_ble_eq_true rfl) (Nat.le_of_ble_eq_true rfl)
theorem d_Gr_waitedForBy_0 : decode b_Gr_waitedForBy 0 = .ok (.iconst (0), 1) := by decide +kernel
theorem d_Gr_waitedForBy_1 : decode b_Gr_waitedForBy 1 = .ok (.istore_n 2, 1) := by decide +kernel
theorem d_Gr_waitedForBy_2 : decode b_Gr_waitedForBy 2 = .ok (.iconst (0), 1) := by decide +kernel
theorem d_Gr_waitedForBy_3 : decode b_Gr_waitedForBy 3 = .ok (.istore_n 3, 1) := by decide +kernel
theorem d_Gr_waitedForBy_4 : decode b_Gr_waitedForBy 4 = .ok (.iload_n 3, 1) := by decide +kernel
theorem d_Gr_waitedForBy_5 : decode b_Gr_waitedForBy 5 = .ok (.aload_n 0, 1) := by decide +kernel
theorem d_Gr_waitedForBy_6 : decode b_Gr_waitedForBy 6 = .ok (.getfield 29, 3) := by decide +kernel
theorem d_Gr_waitedForBy_9 : decode b_Gr_waitedForBy 9 = .ok (.if_icmp .ge (25), 3) := by decide +kernel
theorem d_Gr_waitedForBy_34 : decode b_Gr_waitedForBy 34 = .ok (.iload_n 2, 1) := by decide +kernel
theorem d_Gr_waitedForBy_35 : decode b_Gr_waitedForBy 35 = .ok (.ireturn, 1) := by decide +kernel
set_option maxRecDepth 20000 in
set_option maxHeartbeats 4000000 in
theorem c_Gr_waitedForBy (l : Launch) (D : va_G) (gr : Nat) (gc : Nat) (gf : Nat) (gp : Nat) (gb : Nat) (gl : Nat) (x : Int32) (sz : Nat)  : xMi l y_Gr_waitedForBy w_Gr_waitedForBy { frames := 0, cells := 0, slots := 0, locals := 0 } D cl [.ref gr, .int x] sz [] [(gr, .inr (2, [.ref gc, .ref gf, .ref gp, .ref gb, .ref gl, .int 0]))] (fun (r : Int32) (_ : Unit) => r = 0) (fun _ => [(gr, .inr (2, [.ref gc, .ref gf, .ref gp, .ref gb, .ref gl, .int 0]))]) (fun _ => []) := by
  refine xMi_of (by decide +kernel) rfl (Nat.le_of_ble_eq_true rfl) ?_
  intro p e s m args below meth c ls A B hAe hA hsz hP hK hD hS hAm hTh hAs hl
  obtain ⟨⟨hx, hb, hml, hown, hts⟩, hret, hlk, hnm, hemp⟩ := id B
  have hl : lv_has ls 4 [(0, .ref gr), (1, .int x)] := hl
  refine lv_iconst (v := 0) hx hb d_Gr_waitedForBy_0 (by decide) ?_
  refine lv_istore_n hx hb d_Gr_waitedForBy_1 rfl hl (by decide) rfl (fun ls hl => ?_)
  have hl : lv_has ls 4 [(2, .int 0), (0, .ref gr), (1, .int x)] := hl
  refine lv_iconst (v := 0) hx hb d_Gr_waitedForBy_2 (by decide) ?_
  refine lv_istore_n hx hb d_Gr_waitedForBy_3 rfl hl (by decide) rfl (fun ls hl => ?_)
  have hl : lv_has ls 4 [(3, .int 0), (2, .int 0), (0, .ref gr), (1, .int x)] := hl
  refine lv_iload_n hx hb d_Gr_waitedForBy_4 rfl (lv_at hl 0 rfl) ?_
  refine lv_aload_n hx hb d_Gr_waitedForBy_5 rfl (lv_at hl 2 rfl) ?_
  refine va_get (D := D) (ci := 2) (v := .int 0) (C := R_Gr) (T := F_Gr) (N := 6) hx hb hts (fun w h => List.mem_cons_of_mem _ (u_Gr w h)) hown hK hP 0 rfl rfl 5 (by decide) (hts _ (List.mem_cons_of_mem _ tw_65)) (fun _ h9 => h9) rfl d_Gr_waitedForBy_6 ?_
  refine lv_icmp_ge (tgt := 34) hx hb d_Gr_waitedForBy_9 (by decide) (fun b9 => ?_) (fun b9 => absurd b9 (by decide))
  refine lv_iload_n hx hb d_Gr_waitedForBy_34 rfl (lv_at hl 1 rfl) ?_
  exact xri () B d_Gr_waitedForBy_35 (rfl) (hP.sub (ws' := [(gr, .inr (2, [.ref gc, .ref gf, .ref gp, .ref gb, .ref gl, .int 0]))]) [0] rfl) (hK.sub (tys' := []) [] rfl) (hD.sub (ws' := [(gr, .inr (2, [.ref gc, .ref gf, .ref gp, .ref gb, .ref gl, .int 0]))]) [0] (by decide) rfl) hS (Nat.le_of_ble_eq_true rfl) (Nat.le_of_ble_eq_true rfl)
theorem d_Gr_nextToLookAt_0 : decode b_Gr_nextToLookAt 0 = .ok (.iconst (0), 1) := by decide +kernel
theorem d_Gr_nextToLookAt_1 : decode b_Gr_nextToLookAt 1 = .ok (.istore_n 3, 1) := by decide +kernel
theorem d_Gr_nextToLookAt_2 : decode b_Gr_nextToLookAt 2 = .ok (.iload_n 3, 1) := by decide +kernel
theorem d_Gr_nextToLookAt_3 : decode b_Gr_nextToLookAt 3 = .ok (.aload_n 0, 1) := by decide +kernel
theorem d_Gr_nextToLookAt_4 : decode b_Gr_nextToLookAt 4 = .ok (.getfield 29, 3) := by decide +kernel
theorem d_Gr_nextToLookAt_7 : decode b_Gr_nextToLookAt 7 = .ok (.if_icmp .ge (43), 3) := by decide +kernel
theorem d_Gr_nextToLookAt_50 : decode b_Gr_nextToLookAt 50 = .ok (.iconst (-1), 1) := by decide +kernel
theorem d_Gr_nextToLookAt_51 : decode b_Gr_nextToLookAt 51 = .ok (.ireturn, 1) := by decide +kernel
set_option maxRecDepth 20000 in
set_option maxHeartbeats 4000000 in
theorem c_Gr_nextToLookAt (l : Launch) (D : va_G) (gr : Nat) (gc : Nat) (gf : Nat) (gp : Nat) (gb : Nat) (gl : Nat) (x : Int32) (y : Int32) (sz : Nat)  : xMi l y_Gr_nextToLookAt w_Gr_nextToLookAt { frames := 0, cells := 0, slots := 0, locals := 0 } D cl [.ref gr, .int x, .int y] sz [] [(gr, .inr (2, [.ref gc, .ref gf, .ref gp, .ref gb, .ref gl, .int 0]))] (fun (r : Int32) (_ : Unit) => r = (-1)) (fun _ => [(gr, .inr (2, [.ref gc, .ref gf, .ref gp, .ref gb, .ref gl, .int 0]))]) (fun _ => []) := by
  refine xMi_of (by decide +kernel) rfl (Nat.le_of_ble_eq_true rfl) ?_
  intro p e s m args below meth c ls A B hAe hA hsz hP hK hD hS hAm hTh hAs hl
  obtain ⟨⟨hx, hb, hml, hown, hts⟩, hret, hlk, hnm, hemp⟩ := id B
  have hl : lv_has ls 4 [(0, .ref gr), (1, .int x), (2, .int y)] := hl
  refine lv_iconst (v := 0) hx hb d_Gr_nextToLookAt_0 (by decide) ?_
  refine lv_istore_n hx hb d_Gr_nextToLookAt_1 rfl hl (by decide) rfl (fun ls hl => ?_)
  have hl : lv_has ls 4 [(3, .int 0), (0, .ref gr), (1, .int x), (2, .int y)] := hl
  refine lv_iload_n hx hb d_Gr_nextToLookAt_2 rfl (lv_at hl 0 rfl) ?_
  refine lv_aload_n hx hb d_Gr_nextToLookAt_3 rfl (lv_at hl 1 rfl) ?_
  refine va_get (D := D) (ci := 2) (v := .int 0) (C := R_Gr) (T := F_Gr) (N := 6) hx hb hts (fun w h => List.mem_cons_of_mem _ (u_Gr w h)) hown hK hP 0 rfl rfl 5 (by decide) (hts _ (List.mem_cons_of_mem _ tw_65)) (fun _ h9 => h9) rfl d_Gr_nextToLookAt_4 ?_
  refine lv_icmp_ge (tgt := 50) hx hb d_Gr_nextToLookAt_7 (by decide) (fun b7 => ?_) (fun b7 => absurd b7 (by decide))
  refine lv_iconst (v := (-1)) hx hb d_Gr_nextToLookAt_50 (by decide) ?_
  exact xri () B d_Gr_nextToLookAt_51 (rfl) (hP.sub (ws' := [(gr, .inr (2, [.ref gc, .ref gf, .ref gp, .ref gb, .ref gl, .int 0]))]) [0] rfl) (hK.sub (tys' := []) [] rfl) (hD.sub (ws' := [(gr, .inr (2, [.ref gc, .ref gf, .ref gp, .ref gb, .ref gl, .int 0]))]) [0] (by decide) rfl) hS (Nat.le_of_ble_eq_true rfl) (Nat.le_of_ble_eq_true rfl)
theorem d_Gr_reachedFrom_0 : decode b_Gr_reachedFrom 0 = .ok (.aload_n 0, 1) := by decide +kernel
theorem d_Gr_reachedFrom_1 : decode b_Gr_reachedFrom 1 = .ok (.iload_n 1, 1) := by decide +kernel
theorem d_Gr_reachedFrom_2 : decode b_Gr_reachedFrom 2 = .ok (.invokevirtual 55, 3) := by decide +kernel
theorem d_Gr_reachedFrom_5 : decode b_Gr_reachedFrom 5 = .ok (.istore_n 2, 1) := by decide +kernel
theorem d_Gr_reachedFrom_6 : decode b_Gr_reachedFrom 6 = .ok (.iconst (0), 1) := by decide +kernel
theorem d_Gr_reachedFrom_7 : decode b_Gr_reachedFrom 7 = .ok (.istore_n 3, 1) := by decide +kernel
theorem d_Gr_reachedFrom_8 : decode b_Gr_reachedFrom 8 = .ok (.iload_n 3, 1) := by decide +kernel
theorem d_Gr_reachedFrom_9 : decode b_Gr_reachedFrom 9 = .ok (.bipush (12), 2) := by decide +kernel
theorem d_Gr_reachedFrom_11 : decode b_Gr_reachedFrom 11 = .ok (.if_icmp .ge (21), 3) := by decide +kernel
theorem d_Gr_reachedFrom_14 : decode b_Gr_reachedFrom 14 = .ok (.iload_n 2, 1) := by decide +kernel
theorem d_Gr_reachedFrom_15 : decode b_Gr_reachedFrom 15 = .ok (.aload_n 0, 1) := by decide +kernel
theorem d_Gr_reachedFrom_16 : decode b_Gr_reachedFrom 16 = .ok (.aload_n 0, 1) := by decide +kernel
theorem d_Gr_reachedFrom_17 : decode b_Gr_reachedFrom 17 = .ok (.iload_n 2, 1) := by decide +kernel
theorem d_Gr_reachedFrom_18 : decode b_Gr_reachedFrom 18 = .ok (.invokevirtual 58, 3) := by decide +kernel
theorem d_Gr_reachedFrom_21 : decode b_Gr_reachedFrom 21 = .ok (.invokevirtual 55, 3) := by decide +kernel
theorem d_Gr_reachedFrom_24 : decode b_Gr_reachedFrom 24 = .ok (.ior, 1) := by decide +kernel
theorem d_Gr_reachedFrom_25 : decode b_Gr_reachedFrom 25 = .ok (.istore_n 2, 1) := by decide +kernel
theorem d_Gr_reachedFrom_26 : decode b_Gr_reachedFrom 26 = .ok (.iinc 3 (1), 3) := by decide +kernel
theorem d_Gr_reachedFrom_29 : decode b_Gr_reachedFrom 29 = .ok (.goto (-21), 3) := by decide +kernel
theorem d_Gr_reachedFrom_32 : decode b_Gr_reachedFrom 32 = .ok (.iload_n 2, 1) := by decide +kernel
theorem d_Gr_reachedFrom_33 : decode b_Gr_reachedFrom 33 = .ok (.ireturn, 1) := by decide +kernel
set_option maxRecDepth 20000 in
set_option maxHeartbeats 4000000 in
theorem c_Gr_reachedFrom (l : Launch) (D : va_G) (gr : Nat) (gc : Nat) (gf : Nat) (gp : Nat) (gb : Nat) (gl : Nat) (x : Int32) (sz : Nat)  : xMi l y_Gr_reachedFrom w_Gr_reachedFrom { frames := 1, cells := 0, slots := 0, locals := 30 } D cl [.ref gr, .int x] sz [] [(gr, .inr (2, [.ref gc, .ref gf, .ref gp, .ref gb, .ref gl, .int 0]))] (fun (r : Int32) (_ : Unit) => r = 0) (fun _ => [(gr, .inr (2, [.ref gc, .ref gf, .ref gp, .ref gb, .ref gl, .int 0]))]) (fun _ => []) := by
  refine xMi_of (by decide +kernel) rfl (Nat.le_of_ble_eq_true rfl) ?_
  intro p e s m args below meth c ls A B hAe hA hsz hP hK hD hS hAm hTh hAs hl
  obtain ⟨⟨hx, hb, hml, hown, hts⟩, hret, hlk, hnm, hemp⟩ := id B
  have hl : lv_has ls 4 [(0, .ref gr), (1, .int x)] := hl
  refine lv_aload_n hx hb d_Gr_reachedFrom_0 rfl (lv_at hl 0 rfl) ?_
  refine lv_iload_n hx hb d_Gr_reachedFrom_1 rfl (lv_at hl 1 rfl) ?_
  have hPc := hP.sub (ws' := [(gr, .inr (2, [.ref gc, .ref gf, .ref gp, .ref gb, .ref gl, .int 0]))]) [0] rfl
  have hDc := hD.sub (ws' := [(gr, .inr (2, [.ref gc, .ref gf, .ref gp, .ref gb, .ref gl, .int 0]))]) [0] (by decide) rfl
  have hKc := hK.sub (tys' := []) [] rfl
  refine xgi (wsC := [(gr, .inr (2, [.ref gc, .ref gf, .ref gp, .ref gb, .ref gl, .int 0]))]) (wr := []) (va_runV (As := [.int x]) (rest := []) ⟨hx, hb, hml, hown, hts⟩ (c_Gr_makersOf l  D gr gc gf gp gb gl x _ ) ⟨(callB_of 1 hts (x_good k_Gr_makersOf) rfl rfl rfl (hts _ (List.mem_cons_of_mem _ tw_3)) (hts _ (List.mem_cons_of_mem _ tw_464)) (by decide +kernel) ⟨Nat.le_of_ble_eq_true rfl, Nat.le_of_ble_eq_true rfl⟩), (hts _ (List.mem_cons_of_mem _ tw_466)), (hts _ (List.mem_cons_of_mem _ (x_sel 24 rfl)))⟩ (xP_V (va_recv (ci := 2) (q0 := 0) hK hP rfl rfl) hPc hKc hDc hAm hTh hAs hS) rfl rfl hl.1 rfl (lv_room (Nat.le_of_ble_eq_true rfl)) d_Gr_reachedFrom_2 ⟨Nat.le_of_ble_eq_true rfl, Nat.le_of_ble_eq_true rfl⟩) hP hD hK hS hA [0] [] rfl rfl (by decide) (by decide) (fun r1 _ H locs er1 hP hD hK hS => ?_)
  have er1 : r1 = 0 := er1
  subst er1
  have hK : va_K D cl [] s := hK
  have hP : va_P D cl [(gr, .inr (2, [.ref gc, .ref gf, .ref gp, .ref gb, .ref gl, .int 0]))] H := hP
  have hD : va_D A [(gr, .inr (2, [.ref gc, .ref gf, .ref gp, .ref gb, .ref gl, .int 0]))] := hD
  refine lv_istore_n hx hb d_Gr_reachedFrom_5 rfl hl (by decide) rfl (fun ls hl => ?_)
  have hl : lv_has ls 4 [(2, .int 0), (0, .ref gr), (1, .int x)] := hl
  refine lv_iconst (v := 0) hx hb d_Gr_reachedFrom_6 (by decide) ?_
  refine lv_istore_n hx hb d_Gr_reachedFrom_7 rfl hl (by decide) rfl (fun ls hl => ?_)
  have hl : lv_has ls 4 [(3, .int 0), (2, .int 0), (0, .ref gr), (1, .int x)] := hl
  refine lv_iload_n hx hb d_Gr_reachedFrom_8 rfl (lv_at hl 0 rfl) ?_
  refine lv_bipush (v := 12) hx hb d_Gr_reachedFrom_9 (by decide) ?_
  refine lv_icmp_ge (tgt := 32) hx hb d_Gr_reachedFrom_11 (by decide) (fun b11 => absurd b11 (by decide)) (fun b11 => ?_)
  refine lv_iload_n hx hb d_Gr_reachedFrom_14 rfl (lv_at hl 1 rfl) ?_
  refine lv_aload_n hx hb d_Gr_reachedFrom_15 rfl (lv_at hl 2 rfl) ?_
  refine lv_aload_n hx hb d_Gr_reachedFrom_16 rfl (lv_at hl 2 rfl) ?_
  refine lv_iload_n hx hb d_Gr_reachedFrom_17 rfl (lv_at hl 1 rfl) ?_
  have hPc := hP.sub (ws' := [(gr, .inr (2, [.ref gc, .ref gf, .ref gp, .ref gb, .ref gl, .int 0]))]) [0] rfl
  have hDc := hD.sub (ws' := [(gr, .inr (2, [.ref gc, .ref gf, .ref gp, .ref gb, .ref gl, .int 0]))]) [0] (by decide) rfl
  have hKc := hK.sub (tys' := []) [] rfl
  refine xgi (wsC := [(gr, .inr (2, [.ref gc, .ref gf, .ref gp, .ref gb, .ref gl, .int 0]))]) (wr := []) (va_runV (As := [.int 0]) (rest := [.ref gr, .int 0]) ⟨hx, hb, hml, hown, hts⟩ (c_Gr_waitedForBy l  D gr gc gf gp gb gl 0 _ ) ⟨(callB_of 1 hts (x_good k_Gr_waitedForBy) rfl rfl rfl (hts _ (List.mem_cons_of_mem _ tw_3)) (hts _ (List.mem_cons_of_mem _ tw_468)) (by decide +kernel) ⟨Nat.le_of_ble_eq_true rfl, Nat.le_of_ble_eq_true rfl⟩), (hts _ (List.mem_cons_of_mem _ tw_470)), (hts _ (List.mem_cons_of_mem _ (x_sel 25 rfl)))⟩ (xP_V (va_recv (ci := 2) (q0 := 0) hK hP rfl rfl) hPc hKc hDc hAm hTh hAs hS) rfl rfl hl.1 rfl (lv_room (Nat.le_of_ble_eq_true rfl)) d_Gr_reachedFrom_18 ⟨Nat.le_of_ble_eq_true rfl, Nat.le_of_ble_eq_true rfl⟩) hP hD hK hS hA [0] [] rfl rfl (by decide) (by decide) (fun r2 _ H locs er2 hP hD hK hS => ?_)
  have er2 : r2 = 0 := er2
  subst er2
  have hK : va_K D cl [] s := hK
  have hP : va_P D cl [(gr, .inr (2, [.ref gc, .ref gf, .ref gp, .ref gb, .ref gl, .int 0]))] H := hP
  have hD : va_D A [(gr, .inr (2, [.ref gc, .ref gf, .ref gp, .ref gb, .ref gl, .int 0]))] := hD
  have hPc := hP.sub (ws' := [(gr, .inr (2, [.ref gc, .ref gf, .ref gp, .ref gb, .ref gl, .int 0]))]) [0] rfl
  have hDc := hD.sub (ws' := [(gr, .inr (2, [.ref gc, .ref gf, .ref gp, .ref gb, .ref gl, .int 0]))]) [0] (by decide) rfl
  have hKc := hK.sub (tys' := []) [] rfl
  refine xgi (wsC := [(gr, .inr (2, [.ref gc, .ref gf, .ref gp, .ref gb, .ref gl, .int 0]))]) (wr := []) (va_runV (As := [.int 0]) (rest := [.int 0]) ⟨hx, hb, hml, hown, hts⟩ (c_Gr_makersOf l  D gr gc gf gp gb gl 0 _ ) ⟨(callB_of 1 hts (x_good k_Gr_makersOf) rfl rfl rfl (hts _ (List.mem_cons_of_mem _ tw_3)) (hts _ (List.mem_cons_of_mem _ tw_464)) (by decide +kernel) ⟨Nat.le_of_ble_eq_true rfl, Nat.le_of_ble_eq_true rfl⟩), (hts _ (List.mem_cons_of_mem _ tw_466)), (hts _ (List.mem_cons_of_mem _ (x_sel 24 rfl)))⟩ (xP_V (va_recv (ci := 2) (q0 := 0) hK hP rfl rfl) hPc hKc hDc hAm hTh hAs hS) rfl rfl hl.1 rfl (lv_room (Nat.le_of_ble_eq_true rfl)) d_Gr_reachedFrom_21 ⟨Nat.le_of_ble_eq_true rfl, Nat.le_of_ble_eq_true rfl⟩) hP hD hK hS hA [0] [] rfl rfl (by decide) (by decide) (fun r3 _ H locs er3 hP hD hK hS => ?_)
  have er3 : r3 = 0 := er3
  subst er3
  have hK : va_K D cl [] s := hK
  have hP : va_P D cl [(gr, .inr (2, [.ref gc, .ref gf, .ref gp, .ref gb, .ref gl, .int 0]))] H := hP
  have hD : va_D A [(gr, .inr (2, [.ref gc, .ref gf, .ref gp, .ref gb, .ref gl, .int 0]))] := hD
  refine lv_ior hx hb d_Gr_reachedFrom_24 ?_
  refine xnum (v := 0) (by decide) ?_
  refine lv_istore_n hx hb d_Gr_reachedFrom_25 rfl hl (by decide) rfl (fun ls hl => ?_)
  have hl : lv_has ls 4 [(2, .int 0), (3, .int 0), (0, .ref gr), (1, .int x)] := hl
  refine lv_iinc (k := 1) (v := 1) hx hb d_Gr_reachedFrom_26 hl rfl (by decide) (by decide) rfl (fun ls hl => ?_)
  have hl : lv_has ls 4 [(3, .int 1), (2, .int 0), (0, .ref gr), (1, .int x)] := hl
  refine lv_goto (tgt := 8) hx hb d_Gr_reachedFrom_29 (by decide) ?_
  refine lv_iload_n hx hb d_Gr_reachedFrom_8 rfl (lv_at hl 0 rfl) ?_
  refine lv_bipush (v := 12) hx hb d_Gr_reachedFrom_9 (by decide) ?_
  refine lv_icmp_ge (tgt := 32) hx hb d_Gr_reachedFrom_11 (by decide) (fun b11 => absurd b11 (by decide)) (fun b11 => ?_)
  refine lv_iload_n hx hb d_Gr_reachedFrom_14 rfl (lv_at hl 1 rfl) ?_
  refine lv_aload_n hx hb d_Gr_reachedFrom_15 rfl (lv_at hl 2 rfl) ?_
  refine lv_aload_n hx hb d_Gr_reachedFrom_16 rfl (lv_at hl 2 rfl) ?_
  refine lv_iload_n hx hb d_Gr_reachedFrom_17 rfl (lv_at hl 1 rfl) ?_
  have hPc := hP.sub (ws' := [(gr, .inr (2, [.ref gc, .ref gf, .ref gp, .ref gb, .ref gl, .int 0]))]) [0] rfl
  have hDc := hD.sub (ws' := [(gr, .inr (2, [.ref gc, .ref gf, .ref gp, .ref gb, .ref gl, .int 0]))]) [0] (by decide) rfl
  have hKc := hK.sub (tys' := []) [] rfl
  refine xgi (wsC := [(gr, .inr (2, [.ref gc, .ref gf, .ref gp, .ref gb, .ref gl, .int 0]))]) (wr := []) (va_runV (As := [.int 0]) (rest := [.ref gr, .int 0]) ⟨hx, hb, hml, hown, hts⟩ (c_Gr_waitedForBy l  D gr gc gf gp gb gl 0 _ ) ⟨(callB_of 1 hts (x_good k_Gr_waitedForBy) rfl rfl rfl (hts _ (List.mem_cons_of_mem _ tw_3)) (hts _ (List.mem_cons_of_mem _ tw_468)) (by decide +kernel) ⟨Nat.le_of_ble_eq_true rfl, Nat.le_of_ble_eq_true rfl⟩), (hts _ (List.mem_cons_of_mem _ tw_470)), (hts _ (List.mem_cons_of_mem _ (x_sel 25 rfl)))⟩ (xP_V (va_recv (ci := 2) (q0 := 0) hK hP rfl rfl) hPc hKc hDc hAm hTh hAs hS) rfl rfl hl.1 rfl (lv_room (Nat.le_of_ble_eq_true rfl)) d_Gr_reachedFrom_18 ⟨Nat.le_of_ble_eq_true rfl, Nat.le_of_ble_eq_true rfl⟩) hP hD hK hS hA [0] [] rfl rfl (by decide) (by decide) (fun r4 _ H locs er4 hP hD hK hS => ?_)
  have er4 : r4 = 0 := er4
  subst er4
  have hK : va_K D cl [] s := hK
  have hP : va_P D cl [(gr, .inr (2, [.ref gc, .ref gf, .ref gp, .ref gb, .ref gl, .int 0]))] H := hP
  have hD : va_D A [(gr, .inr (2, [.ref gc, .ref gf, .ref gp, .ref gb, .ref gl, .int 0]))] := hD
  have hPc := hP.sub (ws' := [(gr, .inr (2, [.ref gc, .ref gf, .ref gp, .ref gb, .ref gl, .int 0]))]) [0] rfl
  have hDc := hD.sub (ws' := [(gr, .inr (2, [.ref gc, .ref gf, .ref gp, .ref gb, .ref gl, .int 0]))]) [0] (by decide) rfl
  have hKc := hK.sub (tys' := []) [] rfl
  refine xgi (wsC := [(gr, .inr (2, [.ref gc, .ref gf, .ref gp, .ref gb, .ref gl, .int 0]))]) (wr := []) (va_runV (As := [.int 0]) (rest := [.int 0]) ⟨hx, hb, hml, hown, hts⟩ (c_Gr_makersOf l  D gr gc gf gp gb gl 0 _ ) ⟨(callB_of 1 hts (x_good k_Gr_makersOf) rfl rfl rfl (hts _ (List.mem_cons_of_mem _ tw_3)) (hts _ (List.mem_cons_of_mem _ tw_464)) (by decide +kernel) ⟨Nat.le_of_ble_eq_true rfl, Nat.le_of_ble_eq_true rfl⟩), (hts _ (List.mem_cons_of_mem _ tw_466)), (hts _ (List.mem_cons_of_mem _ (x_sel 24 rfl)))⟩ (xP_V (va_recv (ci := 2) (q0 := 0) hK hP rfl rfl) hPc hKc hDc hAm hTh hAs hS) rfl rfl hl.1 rfl (lv_room (Nat.le_of_ble_eq_true rfl)) d_Gr_reachedFrom_21 ⟨Nat.le_of_ble_eq_true rfl, Nat.le_of_ble_eq_true rfl⟩) hP hD hK hS hA [0] [] rfl rfl (by decide) (by decide) (fun r5 _ H locs er5 hP hD hK hS => ?_)
  have er5 : r5 = 0 := er5
  subst er5
  have hK : va_K D cl [] s := hK
  have hP : va_P D cl [(gr, .inr (2, [.ref gc, .ref gf, .ref gp, .ref gb, .ref gl, .int 0]))] H := hP
  have hD : va_D A [(gr, .inr (2, [.ref gc, .ref gf, .ref gp, .ref gb, .ref gl, .int 0]))] := hD
  refine lv_ior hx hb d_Gr_reachedFrom_24 ?_
  refine xnum (v := 0) (by decide) ?_
  refine lv_istore_n hx hb d_Gr_reachedFrom_25 rfl hl (by decide) rfl (fun ls hl => ?_)
  have hl : lv_has ls 4 [(2, .int 0), (3, .int 1), (0, .ref gr), (1, .int x)] := hl
  refine lv_iinc (k := 1) (v := 2) hx hb d_Gr_reachedFrom_26 hl rfl (by decide) (by decide) rfl (fun ls hl => ?_)
  have hl : lv_has ls 4 [(3, .int 2), (2, .int 0), (0, .ref gr), (1, .int x)] := hl
  refine lv_goto (tgt := 8) hx hb d_Gr_reachedFrom_29 (by decide) ?_
  refine lv_iload_n hx hb d_Gr_reachedFrom_8 rfl (lv_at hl 0 rfl) ?_
  refine lv_bipush (v := 12) hx hb d_Gr_reachedFrom_9 (by decide) ?_
  refine lv_icmp_ge (tgt := 32) hx hb d_Gr_reachedFrom_11 (by decide) (fun b11 => absurd b11 (by decide)) (fun b11 => ?_)
  refine lv_iload_n hx hb d_Gr_reachedFrom_14 rfl (lv_at hl 1 rfl) ?_
  refine lv_aload_n hx hb d_Gr_reachedFrom_15 rfl (lv_at hl 2 rfl) ?_
  refine lv_aload_n hx hb d_Gr_reachedFrom_16 rfl (lv_at hl 2 rfl) ?_
  refine lv_iload_n hx hb d_Gr_reachedFrom_17 rfl (lv_at hl 1 rfl) ?_
  have hPc := hP.sub (ws' := [(gr, .inr (2, [.ref gc, .ref gf, .ref gp, .ref gb, .ref gl, .int 0]))]) [0] rfl
  have hDc := hD.sub (ws' := [(gr, .inr (2, [.ref gc, .ref gf, .ref gp, .ref gb, .ref gl, .int 0]))]) [0] (by decide) rfl
  have hKc := hK.sub (tys' := []) [] rfl
  refine xgi (wsC := [(gr, .inr (2, [.ref gc, .ref gf, .ref gp, .ref gb, .ref gl, .int 0]))]) (wr := []) (va_runV (As := [.int 0]) (rest := [.ref gr, .int 0]) ⟨hx, hb, hml, hown, hts⟩ (c_Gr_waitedForBy l  D gr gc gf gp gb gl 0 _ ) ⟨(callB_of 1 hts (x_good k_Gr_waitedForBy) rfl rfl rfl (hts _ (List.mem_cons_of_mem _ tw_3)) (hts _ (List.mem_cons_of_mem _ tw_468)) (by decide +kernel) ⟨Nat.le_of_ble_eq_true rfl, Nat.le_of_ble_eq_true rfl⟩), (hts _ (List.mem_cons_of_mem _ tw_470)), (hts _ (List.mem_cons_of_mem _ (x_sel 25 rfl)))⟩ (xP_V (va_recv (ci := 2) (q0 := 0) hK hP rfl rfl) hPc hKc hDc hAm hTh hAs hS) rfl rfl hl.1 rfl (lv_room (Nat.le_of_ble_eq_true rfl)) d_Gr_reachedFrom_18 ⟨Nat.le_of_ble_eq_true rfl, Nat.le_of_ble_eq_true rfl⟩) hP hD hK hS hA [0] [] rfl rfl (by decide) (by decide) (fun r6 _ H locs er6 hP hD hK hS => ?_)
  have er6 : r6 = 0 := er6
  subst er6
  have hK : va_K D cl [] s := hK
  have hP : va_P D cl [(gr, .inr (2, [.ref gc, .ref gf, .ref gp, .ref gb, .ref gl, .int 0]))] H := hP
  have hD : va_D A [(gr, .inr (2, [.ref gc, .ref gf, .ref gp, .ref gb, .ref gl, .int 0]))] := hD
  have hPc := hP.sub (ws' := [(gr, .inr (2, [.ref gc, .ref gf, .ref gp, .ref gb, .ref gl, .int 0]))]) [0] rfl
  have hDc := hD.sub (ws' := [(gr, .inr (2, [.ref gc, .ref gf, .ref gp, .ref gb, .ref gl, .int 0]))]) [0] (by decide) rfl
  have hKc := hK.sub (tys' := []) [] rfl
  refine xgi (wsC := [(gr, .inr (2, [.ref gc, .ref gf, .ref gp, .ref gb, .ref gl, .int 0]))]) (wr := []) (va_runV (As := [.int 0]) (rest := [.int 0]) ⟨hx, hb, hml, hown, hts⟩ (c_Gr_makersOf l  D gr gc gf gp gb gl 0 _ ) ⟨(callB_of 1 hts (x_good k_Gr_makersOf) rfl rfl rfl (hts _ (List.mem_cons_of_mem _ tw_3)) (hts _ (List.mem_cons_of_mem _ tw_464)) (by decide +kernel) ⟨Nat.le_of_ble_eq_true rfl, Nat.le_of_ble_eq_true rfl⟩), (hts _ (List.mem_cons_of_mem _ tw_466)), (hts _ (List.mem_cons_of_mem _ (x_sel 24 rfl)))⟩ (xP_V (va_recv (ci := 2) (q0 := 0) hK hP rfl rfl) hPc hKc hDc hAm hTh hAs hS) rfl rfl hl.1 rfl (lv_room (Nat.le_of_ble_eq_true rfl)) d_Gr_reachedFrom_21 ⟨Nat.le_of_ble_eq_true rfl, Nat.le_of_ble_eq_true rfl⟩) hP hD hK hS hA [0] [] rfl rfl (by decide) (by decide) (fun r7 _ H locs er7 hP hD hK hS => ?_)
  have er7 : r7 = 0 := er7
  subst er7
  have hK : va_K D cl [] s := hK
  have hP : va_P D cl [(gr, .inr (2, [.ref gc, .ref gf, .ref gp, .ref gb, .ref gl, .int 0]))] H := hP
  have hD : va_D A [(gr, .inr (2, [.ref gc, .ref gf, .ref gp, .ref gb, .ref gl, .int 0]))] := hD
  refine lv_ior hx hb d_Gr_reachedFrom_24 ?_
  refine xnum (v := 0) (by decide) ?_
  refine lv_istore_n hx hb d_Gr_reachedFrom_25 rfl hl (by decide) rfl (fun ls hl => ?_)
  have hl : lv_has ls 4 [(2, .int 0), (3, .int 2), (0, .ref gr), (1, .int x)] := hl
  refine lv_iinc (k := 1) (v := 3) hx hb d_Gr_reachedFrom_26 hl rfl (by decide) (by decide) rfl (fun ls hl => ?_)
  have hl : lv_has ls 4 [(3, .int 3), (2, .int 0), (0, .ref gr), (1, .int x)] := hl
  refine lv_goto (tgt := 8) hx hb d_Gr_reachedFrom_29 (by decide) ?_
  refine lv_iload_n hx hb d_Gr_reachedFrom_8 rfl (lv_at hl 0 rfl) ?_
  refine lv_bipush (v := 12) hx hb d_Gr_reachedFrom_9 (by decide) ?_
  refine lv_icmp_ge (tgt := 32) hx hb d_Gr_reachedFrom_11 (by decide) (fun b11 => absurd b11 (by decide)) (fun b11 => ?_)
  refine lv_iload_n hx hb d_Gr_reachedFrom_14 rfl (lv_at hl 1 rfl) ?_
  refine lv_aload_n hx hb d_Gr_reachedFrom_15 rfl (lv_at hl 2 rfl) ?_
  refine lv_aload_n hx hb d_Gr_reachedFrom_16 rfl (lv_at hl 2 rfl) ?_
  refine lv_iload_n hx hb d_Gr_reachedFrom_17 rfl (lv_at hl 1 rfl) ?_
  have hPc := hP.sub (ws' := [(gr, .inr (2, [.ref gc, .ref gf, .ref gp, .ref gb, .ref gl, .int 0]))]) [0] rfl
  have hDc := hD.sub (ws' := [(gr, .inr (2, [.ref gc, .ref gf, .ref gp, .ref gb, .ref gl, .int 0]))]) [0] (by decide) rfl
  have hKc := hK.sub (tys' := []) [] rfl
  refine xgi (wsC := [(gr, .inr (2, [.ref gc, .ref gf, .ref gp, .ref gb, .ref gl, .int 0]))]) (wr := []) (va_runV (As := [.int 0]) (rest := [.ref gr, .int 0]) ⟨hx, hb, hml, hown, hts⟩ (c_Gr_waitedForBy l  D gr gc gf gp gb gl 0 _ ) ⟨(callB_of 1 hts (x_good k_Gr_waitedForBy) rfl rfl rfl (hts _ (List.mem_cons_of_mem _ tw_3)) (hts _ (List.mem_cons_of_mem _ tw_468)) (by decide +kernel) ⟨Nat.le_of_ble_eq_true rfl, Nat.le_of_ble_eq_true rfl⟩), (hts _ (List.mem_cons_of_mem _ tw_470)), (hts _ (List.mem_cons_of_mem _ (x_sel 25 rfl)))⟩ (xP_V (va_recv (ci := 2) (q0 := 0) hK hP rfl rfl) hPc hKc hDc hAm hTh hAs hS) rfl rfl hl.1 rfl (lv_room (Nat.le_of_ble_eq_true rfl)) d_Gr_reachedFrom_18 ⟨Nat.le_of_ble_eq_true rfl, Nat.le_of_ble_eq_true rfl⟩) hP hD hK hS hA [0] [] rfl rfl (by decide) (by decide) (fun r8 _ H locs er8 hP hD hK hS => ?_)
  have er8 : r8 = 0 := er8
  subst er8
  have hK : va_K D cl [] s := hK
  have hP : va_P D cl [(gr, .inr (2, [.ref gc, .ref gf, .ref gp, .ref gb, .ref gl, .int 0]))] H := hP
  have hD : va_D A [(gr, .inr (2, [.ref gc, .ref gf, .ref gp, .ref gb, .ref gl, .int 0]))] := hD
  have hPc := hP.sub (ws' := [(gr, .inr (2, [.ref gc, .ref gf, .ref gp, .ref gb, .ref gl, .int 0]))]) [0] rfl
  have hDc := hD.sub (ws' := [(gr, .inr (2, [.ref gc, .ref gf, .ref gp, .ref gb, .ref gl, .int 0]))]) [0] (by decide) rfl
  have hKc := hK.sub (tys' := []) [] rfl
  refine xgi (wsC := [(gr, .inr (2, [.ref gc, .ref gf, .ref gp, .ref gb, .ref gl, .int 0]))]) (wr := []) (va_runV (As := [.int 0]) (rest := [.int 0]) ⟨hx, hb, hml, hown, hts⟩ (c_Gr_makersOf l  D gr gc gf gp gb gl 0 _ ) ⟨(callB_of 1 hts (x_good k_Gr_makersOf) rfl rfl rfl (hts _ (List.mem_cons_of_mem _ tw_3)) (hts _ (List.mem_cons_of_mem _ tw_464)) (by decide +kernel) ⟨Nat.le_of_ble_eq_true rfl, Nat.le_of_ble_eq_true rfl⟩), (hts _ (List.mem_cons_of_mem _ tw_466)), (hts _ (List.mem_cons_of_mem _ (x_sel 24 rfl)))⟩ (xP_V (va_recv (ci := 2) (q0 := 0) hK hP rfl rfl) hPc hKc hDc hAm hTh hAs hS) rfl rfl hl.1 rfl (lv_room (Nat.le_of_ble_eq_true rfl)) d_Gr_reachedFrom_21 ⟨Nat.le_of_ble_eq_true rfl, Nat.le_of_ble_eq_true rfl⟩) hP hD hK hS hA [0] [] rfl rfl (by decide) (by decide) (fun r9 _ H locs er9 hP hD hK hS => ?_)
  have er9 : r9 = 0 := er9
  subst er9
  have hK : va_K D cl [] s := hK
  have hP : va_P D cl [(gr, .inr (2, [.ref gc, .ref gf, .ref gp, .ref gb, .ref gl, .int 0]))] H := hP
  have hD : va_D A [(gr, .inr (2, [.ref gc, .ref gf, .ref gp, .ref gb, .ref gl, .int 0]))] := hD
  refine lv_ior hx hb d_Gr_reachedFrom_24 ?_
  refine xnum (v := 0) (by decide) ?_
  refine lv_istore_n hx hb d_Gr_reachedFrom_25 rfl hl (by decide) rfl (fun ls hl => ?_)
  have hl : lv_has ls 4 [(2, .int 0), (3, .int 3), (0, .ref gr), (1, .int x)] := hl
  refine lv_iinc (k := 1) (v := 4) hx hb d_Gr_reachedFrom_26 hl rfl (by decide) (by decide) rfl (fun ls hl => ?_)
  have hl : lv_has ls 4 [(3, .int 4), (2, .int 0), (0, .ref gr), (1, .int x)] := hl
  refine lv_goto (tgt := 8) hx hb d_Gr_reachedFrom_29 (by decide) ?_
  refine lv_iload_n hx hb d_Gr_reachedFrom_8 rfl (lv_at hl 0 rfl) ?_
  refine lv_bipush (v := 12) hx hb d_Gr_reachedFrom_9 (by decide) ?_
  refine lv_icmp_ge (tgt := 32) hx hb d_Gr_reachedFrom_11 (by decide) (fun b11 => absurd b11 (by decide)) (fun b11 => ?_)
  refine lv_iload_n hx hb d_Gr_reachedFrom_14 rfl (lv_at hl 1 rfl) ?_
  refine lv_aload_n hx hb d_Gr_reachedFrom_15 rfl (lv_at hl 2 rfl) ?_
  refine lv_aload_n hx hb d_Gr_reachedFrom_16 rfl (lv_at hl 2 rfl) ?_
  refine lv_iload_n hx hb d_Gr_reachedFrom_17 rfl (lv_at hl 1 rfl) ?_
  have hPc := hP.sub (ws' := [(gr, .inr (2, [.ref gc, .ref gf, .ref gp, .ref gb, .ref gl, .int 0]))]) [0] rfl
  have hDc := hD.sub (ws' := [(gr, .inr (2, [.ref gc, .ref gf, .ref gp, .ref gb, .ref gl, .int 0]))]) [0] (by decide) rfl
  have hKc := hK.sub (tys' := []) [] rfl
  refine xgi (wsC := [(gr, .inr (2, [.ref gc, .ref gf, .ref gp, .ref gb, .ref gl, .int 0]))]) (wr := []) (va_runV (As := [.int 0]) (rest := [.ref gr, .int 0]) ⟨hx, hb, hml, hown, hts⟩ (c_Gr_waitedForBy l  D gr gc gf gp gb gl 0 _ ) ⟨(callB_of 1 hts (x_good k_Gr_waitedForBy) rfl rfl rfl (hts _ (List.mem_cons_of_mem _ tw_3)) (hts _ (List.mem_cons_of_mem _ tw_468)) (by decide +kernel) ⟨Nat.le_of_ble_eq_true rfl, Nat.le_of_ble_eq_true rfl⟩), (hts _ (List.mem_cons_of_mem _ tw_470)), (hts _ (List.mem_cons_of_mem _ (x_sel 25 rfl)))⟩ (xP_V (va_recv (ci := 2) (q0 := 0) hK hP rfl rfl) hPc hKc hDc hAm hTh hAs hS) rfl rfl hl.1 rfl (lv_room (Nat.le_of_ble_eq_true rfl)) d_Gr_reachedFrom_18 ⟨Nat.le_of_ble_eq_true rfl, Nat.le_of_ble_eq_true rfl⟩) hP hD hK hS hA [0] [] rfl rfl (by decide) (by decide) (fun r10 _ H locs er10 hP hD hK hS => ?_)
  have er10 : r10 = 0 := er10
  subst er10
  have hK : va_K D cl [] s := hK
  have hP : va_P D cl [(gr, .inr (2, [.ref gc, .ref gf, .ref gp, .ref gb, .ref gl, .int 0]))] H := hP
  have hD : va_D A [(gr, .inr (2, [.ref gc, .ref gf, .ref gp, .ref gb, .ref gl, .int 0]))] := hD
  have hPc := hP.sub (ws' := [(gr, .inr (2, [.ref gc, .ref gf, .ref gp, .ref gb, .ref gl, .int 0]))]) [0] rfl
  have hDc := hD.sub (ws' := [(gr, .inr (2, [.ref gc, .ref gf, .ref gp, .ref gb, .ref gl, .int 0]))]) [0] (by decide) rfl
  have hKc := hK.sub (tys' := []) [] rfl
  refine xgi (wsC := [(gr, .inr (2, [.ref gc, .ref gf, .ref gp, .ref gb, .ref gl, .int 0]))]) (wr := []) (va_runV (As := [.int 0]) (rest := [.int 0]) ⟨hx, hb, hml, hown, hts⟩ (c_Gr_makersOf l  D gr gc gf gp gb gl 0 _ ) ⟨(callB_of 1 hts (x_good k_Gr_makersOf) rfl rfl rfl (hts _ (List.mem_cons_of_mem _ tw_3)) (hts _ (List.mem_cons_of_mem _ tw_464)) (by decide +kernel) ⟨Nat.le_of_ble_eq_true rfl, Nat.le_of_ble_eq_true rfl⟩), (hts _ (List.mem_cons_of_mem _ tw_466)), (hts _ (List.mem_cons_of_mem _ (x_sel 24 rfl)))⟩ (xP_V (va_recv (ci := 2) (q0 := 0) hK hP rfl rfl) hPc hKc hDc hAm hTh hAs hS) rfl rfl hl.1 rfl (lv_room (Nat.le_of_ble_eq_true rfl)) d_Gr_reachedFrom_21 ⟨Nat.le_of_ble_eq_true rfl, Nat.le_of_ble_eq_true rfl⟩) hP hD hK hS hA [0] [] rfl rfl (by decide) (by decide) (fun r11 _ H locs er11 hP hD hK hS => ?_)
  have er11 : r11 = 0 := er11
  subst er11
  have hK : va_K D cl [] s := hK
  have hP : va_P D cl [(gr, .inr (2, [.ref gc, .ref gf, .ref gp, .ref gb, .ref gl, .int 0]))] H := hP
  have hD : va_D A [(gr, .inr (2, [.ref gc, .ref gf, .ref gp, .ref gb, .ref gl, .int 0]))] := hD
  refine lv_ior hx hb d_Gr_reachedFrom_24 ?_
  refine xnum (v := 0) (by decide) ?_
  refine lv_istore_n hx hb d_Gr_reachedFrom_25 rfl hl (by decide) rfl (fun ls hl => ?_)
  have hl : lv_has ls 4 [(2, .int 0), (3, .int 4), (0, .ref gr), (1, .int x)] := hl
  refine lv_iinc (k := 1) (v := 5) hx hb d_Gr_reachedFrom_26 hl rfl (by decide) (by decide) rfl (fun ls hl => ?_)
  have hl : lv_has ls 4 [(3, .int 5), (2, .int 0), (0, .ref gr), (1, .int x)] := hl
  refine lv_goto (tgt := 8) hx hb d_Gr_reachedFrom_29 (by decide) ?_
  refine lv_iload_n hx hb d_Gr_reachedFrom_8 rfl (lv_at hl 0 rfl) ?_
  refine lv_bipush (v := 12) hx hb d_Gr_reachedFrom_9 (by decide) ?_
  refine lv_icmp_ge (tgt := 32) hx hb d_Gr_reachedFrom_11 (by decide) (fun b11 => absurd b11 (by decide)) (fun b11 => ?_)
  refine lv_iload_n hx hb d_Gr_reachedFrom_14 rfl (lv_at hl 1 rfl) ?_
  refine lv_aload_n hx hb d_Gr_reachedFrom_15 rfl (lv_at hl 2 rfl) ?_
  refine lv_aload_n hx hb d_Gr_reachedFrom_16 rfl (lv_at hl 2 rfl) ?_
  refine lv_iload_n hx hb d_Gr_reachedFrom_17 rfl (lv_at hl 1 rfl) ?_
  have hPc := hP.sub (ws' := [(gr, .inr (2, [.ref gc, .ref gf, .ref gp, .ref gb, .ref gl, .int 0]))]) [0] rfl
  have hDc := hD.sub (ws' := [(gr, .inr (2, [.ref gc, .ref gf, .ref gp, .ref gb, .ref gl, .int 0]))]) [0] (by decide) rfl
  have hKc := hK.sub (tys' := []) [] rfl
  refine xgi (wsC := [(gr, .inr (2, [.ref gc, .ref gf, .ref gp, .ref gb, .ref gl, .int 0]))]) (wr := []) (va_runV (As := [.int 0]) (rest := [.ref gr, .int 0]) ⟨hx, hb, hml, hown, hts⟩ (c_Gr_waitedForBy l  D gr gc gf gp gb gl 0 _ ) ⟨(callB_of 1 hts (x_good k_Gr_waitedForBy) rfl rfl rfl (hts _ (List.mem_cons_of_mem _ tw_3)) (hts _ (List.mem_cons_of_mem _ tw_468)) (by decide +kernel) ⟨Nat.le_of_ble_eq_true rfl, Nat.le_of_ble_eq_true rfl⟩), (hts _ (List.mem_cons_of_mem _ tw_470)), (hts _ (List.mem_cons_of_mem _ (x_sel 25 rfl)))⟩ (xP_V (va_recv (ci := 2) (q0 := 0) hK hP rfl rfl) hPc hKc hDc hAm hTh hAs hS) rfl rfl hl.1 rfl (lv_room (Nat.le_of_ble_eq_true rfl)) d_Gr_reachedFrom_18 ⟨Nat.le_of_ble_eq_true rfl, Nat.le_of_ble_eq_true rfl⟩) hP hD hK hS hA [0] [] rfl rfl (by decide) (by decide) (fun r12 _ H locs er12 hP hD hK hS => ?_)
  have er12 : r12 = 0 := er12
  subst er12
  have hK : va_K D cl [] s := hK
  have hP : va_P D cl [(gr, .inr (2, [.ref gc, .ref gf, .ref gp, .ref gb, .ref gl, .int 0]))] H := hP
  have hD : va_D A [(gr, .inr (2, [.ref gc, .ref gf, .ref gp, .ref gb, .ref gl, .int 0]))] := hD
  have hPc := hP.sub (ws' := [(gr, .inr (2, [.ref gc, .ref gf, .ref gp, .ref gb, .ref gl, .int 0]))]) [0] rfl
  have hDc := hD.sub (ws' := [(gr, .inr (2, [.ref gc, .ref gf, .ref gp, .ref gb, .ref gl, .int 0]))]) [0] (by decide) rfl
  have hKc := hK.sub (tys' := []) [] rfl
  refine xgi (wsC := [(gr, .inr (2, [.ref gc, .ref gf, .ref gp, .ref gb, .ref gl, .int 0]))]) (wr := []) (va_runV (As := [.int 0]) (rest := [.int 0]) ⟨hx, hb, hml, hown, hts⟩ (c_Gr_makersOf l  D gr gc gf gp gb gl 0 _ ) ⟨(callB_of 1 hts (x_good k_Gr_makersOf) rfl rfl rfl (hts _ (List.mem_cons_of_mem _ tw_3)) (hts _ (List.mem_cons_of_mem _ tw_464)) (by decide +kernel) ⟨Nat.le_of_ble_eq_true rfl, Nat.le_of_ble_eq_true rfl⟩), (hts _ (List.mem_cons_of_mem _ tw_466)), (hts _ (List.mem_cons_of_mem _ (x_sel 24 rfl)))⟩ (xP_V (va_recv (ci := 2) (q0 := 0) hK hP rfl rfl) hPc hKc hDc hAm hTh hAs hS) rfl rfl hl.1 rfl (lv_room (Nat.le_of_ble_eq_true rfl)) d_Gr_reachedFrom_21 ⟨Nat.le_of_ble_eq_true rfl, Nat.le_of_ble_eq_true rfl⟩) hP hD hK hS hA [0] [] rfl rfl (by decide) (by decide) (fun r13 _ H locs er13 hP hD hK hS => ?_)
  have er13 : r13 = 0 := er13
  subst er13
  have hK : va_K D cl [] s := hK
  have hP : va_P D cl [(gr, .inr (2, [.ref gc, .ref gf, .ref gp, .ref gb, .ref gl, .int 0]))] H := hP
  have hD : va_D A [(gr, .inr (2, [.ref gc, .ref gf, .ref gp, .ref gb, .ref gl, .int 0]))] := hD
  refine lv_ior hx hb d_Gr_reachedFrom_24 ?_
  refine xnum (v := 0) (by decide) ?_
  refine lv_istore_n hx hb d_Gr_reachedFrom_25 rfl hl (by decide) rfl (fun ls hl => ?_)
  have hl : lv_has ls 4 [(2, .int 0), (3, .int 5), (0, .ref gr), (1, .int x)] := hl
  refine lv_iinc (k := 1) (v := 6) hx hb d_Gr_reachedFrom_26 hl rfl (by decide) (by decide) rfl (fun ls hl => ?_)
  have hl : lv_has ls 4 [(3, .int 6), (2, .int 0), (0, .ref gr), (1, .int x)] := hl
  refine lv_goto (tgt := 8) hx hb d_Gr_reachedFrom_29 (by decide) ?_
  refine lv_iload_n hx hb d_Gr_reachedFrom_8 rfl (lv_at hl 0 rfl) ?_
  refine lv_bipush (v := 12) hx hb d_Gr_reachedFrom_9 (by decide) ?_
  refine lv_icmp_ge (tgt := 32) hx hb d_Gr_reachedFrom_11 (by decide) (fun b11 => absurd b11 (by decide)) (fun b11 => ?_)
  refine lv_iload_n hx hb d_Gr_reachedFrom_14 rfl (lv_at hl 1 rfl) ?_
  refine lv_aload_n hx hb d_Gr_reachedFrom_15 rfl (lv_at hl 2 rfl) ?_
  refine lv_aload_n hx hb d_Gr_reachedFrom_16 rfl (lv_at hl 2 rfl) ?_
  refine lv_iload_n hx hb d_Gr_reachedFrom_17 rfl (lv_at hl 1 rfl) ?_
  have hPc := hP.sub (ws' := [(gr, .inr (2, [.ref gc, .ref gf, .ref gp, .ref gb, .ref gl, .int 0]))]) [0] rfl
  have hDc := hD.sub (ws' := [(gr, .inr (2, [.ref gc, .ref gf, .ref gp, .ref gb, .ref gl, .int 0]))]) [0] (by decide) rfl
  have hKc := hK.sub (tys' := []) [] rfl
  refine xgi (wsC := [(gr, .inr (2, [.ref gc, .ref gf, .ref gp, .ref gb, .ref gl, .int 0]))]) (wr := []) (va_runV (As := [.int 0]) (rest := [.ref gr, .int 0]) ⟨hx, hb, hml, hown, hts⟩ (c_Gr_waitedForBy l  D gr gc gf gp gb gl 0 _ ) ⟨(callB_of 1 hts (x_good k_Gr_waitedForBy) rfl rfl rfl (hts _ (List.mem_cons_of_mem _ tw_3)) (hts _ (List.mem_cons_of_mem _ tw_468)) (by decide +kernel) ⟨Nat.le_of_ble_eq_true rfl, Nat.le_of_ble_eq_true rfl⟩), (hts _ (List.mem_cons_of_mem _ tw_470)), (hts _ (List.mem_cons_of_mem _ (x_sel 25 rfl)))⟩ (xP_V (va_recv (ci := 2) (q0 := 0) hK hP rfl rfl) hPc hKc hDc hAm hTh hAs hS) rfl rfl hl.1 rfl (lv_room (Nat.le_of_ble_eq_true rfl)) d_Gr_reachedFrom_18 ⟨Nat.le_of_ble_eq_true rfl, Nat.le_of_ble_eq_true rfl⟩) hP hD hK hS hA [0] [] rfl rfl (by decide) (by decide) (fun r14 _ H locs er14 hP hD hK hS => ?_)
  have er14 : r14 = 0 := er14
  subst er14
  have hK : va_K D cl [] s := hK
  have hP : va_P D cl [(gr, .inr (2, [.ref gc, .ref gf, .ref gp, .ref gb, .ref gl, .int 0]))] H := hP
  have hD : va_D A [(gr, .inr (2, [.ref gc, .ref gf, .ref gp, .ref gb, .ref gl, .int 0]))] := hD
  have hPc := hP.sub (ws' := [(gr, .inr (2, [.ref gc, .ref gf, .ref gp, .ref gb, .ref gl, .int 0]))]) [0] rfl
  have hDc := hD.sub (ws' := [(gr, .inr (2, [.ref gc, .ref gf, .ref gp, .ref gb, .ref gl, .int 0]))]) [0] (by decide) rfl
  have hKc := hK.sub (tys' := []) [] rfl
  refine xgi (wsC := [(gr, .inr (2, [.ref gc, .ref gf, .ref gp, .ref gb, .ref gl, .int 0]))]) (wr := []) (va_runV (As := [.int 0]) (rest := [.int 0]) ⟨hx, hb, hml, hown, hts⟩ (c_Gr_makersOf l  D gr gc gf gp gb gl 0 _ ) ⟨(callB_of 1 hts (x_good k_Gr_makersOf) rfl rfl rfl (hts _ (List.mem_cons_of_mem _ tw_3)) (hts _ (List.mem_cons_of_mem _ tw_464)) (by decide +kernel) ⟨Nat.le_of_ble_eq_true rfl, Nat.le_of_ble_eq_true rfl⟩), (hts _ (List.mem_cons_of_mem _ tw_466)), (hts _ (List.mem_cons_of_mem _ (x_sel 24 rfl)))⟩ (xP_V (va_recv (ci := 2) (q0 := 0) hK hP rfl rfl) hPc hKc hDc hAm hTh hAs hS) rfl rfl hl.1 rfl (lv_room (Nat.le_of_ble_eq_true rfl)) d_Gr_reachedFrom_21 ⟨Nat.le_of_ble_eq_true rfl, Nat.le_of_ble_eq_true rfl⟩) hP hD hK hS hA [0] [] rfl rfl (by decide) (by decide) (fun r15 _ H locs er15 hP hD hK hS => ?_)
  have er15 : r15 = 0 := er15
  subst er15
  have hK : va_K D cl [] s := hK
  have hP : va_P D cl [(gr, .inr (2, [.ref gc, .ref gf, .ref gp, .ref gb, .ref gl, .int 0]))] H := hP
  have hD : va_D A [(gr, .inr (2, [.ref gc, .ref gf, .ref gp, .ref gb, .ref gl, .int 0]))] := hD
  refine lv_ior hx hb d_Gr_reachedFrom_24 ?_
  refine xnum (v := 0) (by decide) ?_
  refine lv_istore_n hx hb d_Gr_reachedFrom_25 rfl hl (by decide) rfl (fun ls hl => ?_)
  have hl : lv_has ls 4 [(2, .int 0), (3, .int 6), (0, .ref gr), (1, .int x)] := hl
  refine lv_iinc (k := 1) (v := 7) hx hb d_Gr_reachedFrom_26 hl rfl (by decide) (by decide) rfl (fun ls hl => ?_)
  have hl : lv_has ls 4 [(3, .int 7), (2, .int 0), (0, .ref gr), (1, .int x)] := hl
  refine lv_goto (tgt := 8) hx hb d_Gr_reachedFrom_29 (by decide) ?_
  refine lv_iload_n hx hb d_Gr_reachedFrom_8 rfl (lv_at hl 0 rfl) ?_
  refine lv_bipush (v := 12) hx hb d_Gr_reachedFrom_9 (by decide) ?_
  refine lv_icmp_ge (tgt := 32) hx hb d_Gr_reachedFrom_11 (by decide) (fun b11 => absurd b11 (by decide)) (fun b11 => ?_)
  refine lv_iload_n hx hb d_Gr_reachedFrom_14 rfl (lv_at hl 1 rfl) ?_
  refine lv_aload_n hx hb d_Gr_reachedFrom_15 rfl (lv_at hl 2 rfl) ?_
  refine lv_aload_n hx hb d_Gr_reachedFrom_16 rfl (lv_at hl 2 rfl) ?_
  refine lv_iload_n hx hb d_Gr_reachedFrom_17 rfl (lv_at hl 1 rfl) ?_
  have hPc := hP.sub (ws' := [(gr, .inr (2, [.ref gc, .ref gf, .ref gp, .ref gb, .ref gl, .int 0]))]) [0] rfl
  have hDc := hD.sub (ws' := [(gr, .inr (2, [.ref gc, .ref gf, .ref gp, .ref gb, .ref gl, .int 0]))]) [0] (by decide) rfl
  have hKc := hK.sub (tys' := []) [] rfl
  refine xgi (wsC := [(gr, .inr (2, [.ref gc, .ref gf, .ref gp, .ref gb, .ref gl, .int 0]))]) (wr := []) (va_runV (As := [.int 0]) (rest := [.ref gr, .int 0]) ⟨hx, hb, hml, hown, hts⟩ (c_Gr_waitedForBy l  D gr gc gf gp gb gl 0 _ ) ⟨(callB_of 1 hts (x_good k_Gr_waitedForBy) rfl rfl rfl (hts _ (List.mem_cons_of_mem _ tw_3)) (hts _ (List.mem_cons_of_mem _ tw_468)) (by decide +kernel) ⟨Nat.le_of_ble_eq_true rfl, Nat.le_of_ble_eq_true rfl⟩), (hts _ (List.mem_cons_of_mem _ tw_470)), (hts _ (List.mem_cons_of_mem _ (x_sel 25 rfl)))⟩ (xP_V (va_recv (ci := 2) (q0 := 0) hK hP rfl rfl) hPc hKc hDc hAm hTh hAs hS) rfl rfl hl.1 rfl (lv_room (Nat.le_of_ble_eq_true rfl)) d_Gr_reachedFrom_18 ⟨Nat.le_of_ble_eq_true rfl, Nat.le_of_ble_eq_true rfl⟩) hP hD hK hS hA [0] [] rfl rfl (by decide) (by decide) (fun r16 _ H locs er16 hP hD hK hS => ?_)
  have er16 : r16 = 0 := er16
  subst er16
  have hK : va_K D cl [] s := hK
  have hP : va_P D cl [(gr, .inr (2, [.ref gc, .ref gf, .ref gp, .ref gb, .ref gl, .int 0]))] H := hP
  have hD : va_D A [(gr, .inr (2, [.ref gc, .ref gf, .ref gp, .ref gb, .ref gl, .int 0]))] := hD
  have hPc := hP.sub (ws' := [(gr, .inr (2, [.ref gc, .ref gf, .ref gp, .ref gb, .ref gl, .int 0]))]) [0] rfl
  have hDc := hD.sub (ws' := [(gr, .inr (2, [.ref gc, .ref gf, .ref gp, .ref gb, .ref gl, .int 0]))]) [0] (by decide) rfl
  have hKc := hK.sub (tys' := []) [] rfl
  refine xgi (wsC := [(gr, .inr (2, [.ref gc, .ref gf, .ref gp, .ref gb, .ref gl, .int 0]))]) (wr := []) (va_runV (As := [.int 0]) (rest := [.int 0]) ⟨hx, hb, hml, hown, hts⟩ (c_Gr_makersOf l  D gr gc gf gp gb gl 0 _ ) ⟨(callB_of 1 hts (x_good k_Gr_makersOf) rfl rfl rfl (hts _ (List.mem_cons_of_mem _ tw_3)) (hts _ (List.mem_cons_of_mem _ tw_464)) (by decide +kernel) ⟨Nat.le_of_ble_eq_true rfl, Nat.le_of_ble_eq_true rfl⟩), (hts _ (List.mem_cons_of_mem _ tw_466)), (hts _ (List.mem_cons_of_mem _ (x_sel 24 rfl)))⟩ (xP_V (va_recv (ci := 2) (q0 := 0) hK hP rfl rfl) hPc hKc hDc hAm hTh hAs hS) rfl rfl hl.1 rfl (lv_room (Nat.le_of_ble_eq_true rfl)) d_Gr_reachedFrom_21 ⟨Nat.le_of_ble_eq_true rfl, Nat.le_of_ble_eq_true rfl⟩) hP hD hK hS hA [0] [] rfl rfl (by decide) (by decide) (fun r17 _ H locs er17 hP hD hK hS => ?_)
  have er17 : r17 = 0 := er17
  subst er17
  have hK : va_K D cl [] s := hK
  have hP : va_P D cl [(gr, .inr (2, [.ref gc, .ref gf, .ref gp, .ref gb, .ref gl, .int 0]))] H := hP
  have hD : va_D A [(gr, .inr (2, [.ref gc, .ref gf, .ref gp, .ref gb, .ref gl, .int 0]))] := hD
  refine lv_ior hx hb d_Gr_reachedFrom_24 ?_
  refine xnum (v := 0) (by decide) ?_
  refine lv_istore_n hx hb d_Gr_reachedFrom_25 rfl hl (by decide) rfl (fun ls hl => ?_)
  have hl : lv_has ls 4 [(2, .int 0), (3, .int 7), (0, .ref gr), (1, .int x)] := hl
  refine lv_iinc (k := 1) (v := 8) hx hb d_Gr_reachedFrom_26 hl rfl (by decide) (by decide) rfl (fun ls hl => ?_)
  have hl : lv_has ls 4 [(3, .int 8), (2, .int 0), (0, .ref gr), (1, .int x)] := hl
  refine lv_goto (tgt := 8) hx hb d_Gr_reachedFrom_29 (by decide) ?_
  refine lv_iload_n hx hb d_Gr_reachedFrom_8 rfl (lv_at hl 0 rfl) ?_
  refine lv_bipush (v := 12) hx hb d_Gr_reachedFrom_9 (by decide) ?_
  refine lv_icmp_ge (tgt := 32) hx hb d_Gr_reachedFrom_11 (by decide) (fun b11 => absurd b11 (by decide)) (fun b11 => ?_)
  refine lv_iload_n hx hb d_Gr_reachedFrom_14 rfl (lv_at hl 1 rfl) ?_
  refine lv_aload_n hx hb d_Gr_reachedFrom_15 rfl (lv_at hl 2 rfl) ?_
  refine lv_aload_n hx hb d_Gr_reachedFrom_16 rfl (lv_at hl 2 rfl) ?_
  refine lv_iload_n hx hb d_Gr_reachedFrom_17 rfl (lv_at hl 1 rfl) ?_
  have hPc := hP.sub (ws' := [(gr, .inr (2, [.ref gc, .ref gf, .ref gp, .ref gb, .ref gl, .int 0]))]) [0] rfl
  have hDc := hD.sub (ws' := [(gr, .inr (2, [.ref gc, .ref gf, .ref gp, .ref gb, .ref gl, .int 0]))]) [0] (by decide) rfl
  have hKc := hK.sub (tys' := []) [] rfl
  refine xgi (wsC := [(gr, .inr (2, [.ref gc, .ref gf, .ref gp, .ref gb, .ref gl, .int 0]))]) (wr := []) (va_runV (As := [.int 0]) (rest := [.ref gr, .int 0]) ⟨hx, hb, hml, hown, hts⟩ (c_Gr_waitedForBy l  D gr gc gf gp gb gl 0 _ ) ⟨(callB_of 1 hts (x_good k_Gr_waitedForBy) rfl rfl rfl (hts _ (List.mem_cons_of_mem _ tw_3)) (hts _ (List.mem_cons_of_mem _ tw_468)) (by decide +kernel) ⟨Nat.le_of_ble_eq_true rfl, Nat.le_of_ble_eq_true rfl⟩), (hts _ (List.mem_cons_of_mem _ tw_470)), (hts _ (List.mem_cons_of_mem _ (x_sel 25 rfl)))⟩ (xP_V (va_recv (ci := 2) (q0 := 0) hK hP rfl rfl) hPc hKc hDc hAm hTh hAs hS) rfl rfl hl.1 rfl (lv_room (Nat.le_of_ble_eq_true rfl)) d_Gr_reachedFrom_18 ⟨Nat.le_of_ble_eq_true rfl, Nat.le_of_ble_eq_true rfl⟩) hP hD hK hS hA [0] [] rfl rfl (by decide) (by decide) (fun r18 _ H locs er18 hP hD hK hS => ?_)
  have er18 : r18 = 0 := er18
  subst er18
  have hK : va_K D cl [] s := hK
  have hP : va_P D cl [(gr, .inr (2, [.ref gc, .ref gf, .ref gp, .ref gb, .ref gl, .int 0]))] H := hP
  have hD : va_D A [(gr, .inr (2, [.ref gc, .ref gf, .ref gp, .ref gb, .ref gl, .int 0]))] := hD
  have hPc := hP.sub (ws' := [(gr, .inr (2, [.ref gc, .ref gf, .ref gp, .ref gb, .ref gl, .int 0]))]) [0] rfl
  have hDc := hD.sub (ws' := [(gr, .inr (2, [.ref gc, .ref gf, .ref gp, .ref gb, .ref gl, .int 0]))]) [0] (by decide) rfl
  have hKc := hK.sub (tys' := []) [] rfl
  refine xgi (wsC := [(gr, .inr (2, [.ref gc, .ref gf, .ref gp, .ref gb, .ref gl, .int 0]))]) (wr := []) (va_runV (As := [.int 0]) (rest := [.int 0]) ⟨hx, hb, hml, hown, hts⟩ (c_Gr_makersOf l  D gr gc gf gp gb gl 0 _ ) ⟨(callB_of 1 hts (x_good k_Gr_makersOf) rfl rfl rfl (hts _ (List.mem_cons_of_mem _ tw_3)) (hts _ (List.mem_cons_of_mem _ tw_464)) (by decide +kernel) ⟨Nat.le_of_ble_eq_true rfl, Nat.le_of_ble_eq_true rfl⟩), (hts _ (List.mem_cons_of_mem _ tw_466)), (hts _ (List.mem_cons_of_mem _ (x_sel 24 rfl)))⟩ (xP_V (va_recv (ci := 2) (q0 := 0) hK hP rfl rfl) hPc hKc hDc hAm hTh hAs hS) rfl rfl hl.1 rfl (lv_room (Nat.le_of_ble_eq_true rfl)) d_Gr_reachedFrom_21 ⟨Nat.le_of_ble_eq_true rfl, Nat.le_of_ble_eq_true rfl⟩) hP hD hK hS hA [0] [] rfl rfl (by decide) (by decide) (fun r19 _ H locs er19 hP hD hK hS => ?_)
  have er19 : r19 = 0 := er19
  subst er19
  have hK : va_K D cl [] s := hK
  have hP : va_P D cl [(gr, .inr (2, [.ref gc, .ref gf, .ref gp, .ref gb, .ref gl, .int 0]))] H := hP
  have hD : va_D A [(gr, .inr (2, [.ref gc, .ref gf, .ref gp, .ref gb, .ref gl, .int 0]))] := hD
  refine lv_ior hx hb d_Gr_reachedFrom_24 ?_
  refine xnum (v := 0) (by decide) ?_
  refine lv_istore_n hx hb d_Gr_reachedFrom_25 rfl hl (by decide) rfl (fun ls hl => ?_)
  have hl : lv_has ls 4 [(2, .int 0), (3, .int 8), (0, .ref gr), (1, .int x)] := hl
  refine lv_iinc (k := 1) (v := 9) hx hb d_Gr_reachedFrom_26 hl rfl (by decide) (by decide) rfl (fun ls hl => ?_)
  have hl : lv_has ls 4 [(3, .int 9), (2, .int 0), (0, .ref gr), (1, .int x)] := hl
  refine lv_goto (tgt := 8) hx hb d_Gr_reachedFrom_29 (by decide) ?_
  refine lv_iload_n hx hb d_Gr_reachedFrom_8 rfl (lv_at hl 0 rfl) ?_
  refine lv_bipush (v := 12) hx hb d_Gr_reachedFrom_9 (by decide) ?_
  refine lv_icmp_ge (tgt := 32) hx hb d_Gr_reachedFrom_11 (by decide) (fun b11 => absurd b11 (by decide)) (fun b11 => ?_)
  refine lv_iload_n hx hb d_Gr_reachedFrom_14 rfl (lv_at hl 1 rfl) ?_
  refine lv_aload_n hx hb d_Gr_reachedFrom_15 rfl (lv_at hl 2 rfl) ?_
  refine lv_aload_n hx hb d_Gr_reachedFrom_16 rfl (lv_at hl 2 rfl) ?_
  refine lv_iload_n hx hb d_Gr_reachedFrom_17 rfl (lv_at hl 1 rfl) ?_
  have hPc := hP.sub (ws' := [(gr, .inr (2, [.ref gc, .ref gf, .ref gp, .ref gb, .ref gl, .int 0]))]) [0] rfl
  have hDc := hD.sub (ws' := [(gr, .inr (2, [.ref gc, .ref gf, .ref gp, .ref gb, .ref gl, .int 0]))]) [0] (by decide) rfl
  have hKc := hK.sub (tys' := []) [] rfl
  refine xgi (wsC := [(gr, .inr (2, [.ref gc, .ref gf, .ref gp, .ref gb, .ref gl, .int 0]))]) (wr := []) (va_runV (As := [.int 0]) (rest := [.ref gr, .int 0]) ⟨hx, hb, hml, hown, hts⟩ (c_Gr_waitedForBy l  D gr gc gf gp gb gl 0 _ ) ⟨(callB_of 1 hts (x_good k_Gr_waitedForBy) rfl rfl rfl (hts _ (List.mem_cons_of_mem _ tw_3)) (hts _ (List.mem_cons_of_mem _ tw_468)) (by decide +kernel) ⟨Nat.le_of_ble_eq_true rfl, Nat.le_of_ble_eq_true rfl⟩), (hts _ (List.mem_cons_of_mem _ tw_470)), (hts _ (List.mem_cons_of_mem _ (x_sel 25 rfl)))⟩ (xP_V (va_recv (ci := 2) (q0 := 0) hK hP rfl rfl) hPc hKc hDc hAm hTh hAs hS) rfl rfl hl.1 rfl (lv_room (Nat.le_of_ble_eq_true rfl)) d_Gr_reachedFrom_18 ⟨Nat.le_of_ble_eq_true rfl, Nat.le_of_ble_eq_true rfl⟩) hP hD hK hS hA [0] [] rfl rfl (by decide) (by decide) (fun r20 _ H locs er20 hP hD hK hS => ?_)
  have er20 : r20 = 0 := er20
  subst er20
  have hK : va_K D cl [] s := hK
  have hP : va_P D cl [(gr, .inr (2, [.ref gc, .ref gf, .ref gp, .ref gb, .ref gl, .int 0]))] H := hP
  have hD : va_D A [(gr, .inr (2, [.ref gc, .ref gf, .ref gp, .ref gb, .ref gl, .int 0]))] := hD
  have hPc := hP.sub (ws' := [(gr, .inr (2, [.ref gc, .ref gf, .ref gp, .ref gb, .ref gl, .int 0]))]) [0] rfl
  have hDc := hD.sub (ws' := [(gr, .inr (2, [.ref gc, .ref gf, .ref gp, .ref gb, .ref gl, .int 0]))]) [0] (by decide) rfl
  have hKc := hK.sub (tys' := []) [] rfl
  refine xgi (wsC := [(gr, .inr (2, [.ref gc, .ref gf, .ref gp, .ref gb, .ref gl, .int 0]))]) (wr := []) (va_runV (As := [.int 0]) (rest := [.int 0]) ⟨hx, hb, hml, hown, hts⟩ (c_Gr_makersOf l  D gr gc gf gp gb gl 0 _ ) ⟨(callB_of 1 hts (x_good k_Gr_makersOf) rfl rfl rfl (hts _ (List.mem_cons_of_mem _ tw_3)) (hts _ (List.mem_cons_of_mem _ tw_464)) (by decide +kernel) ⟨Nat.le_of_ble_eq_true rfl, Nat.le_of_ble_eq_true rfl⟩), (hts _ (List.mem_cons_of_mem _ tw_466)), (hts _ (List.mem_cons_of_mem _ (x_sel 24 rfl)))⟩ (xP_V (va_recv (ci := 2) (q0 := 0) hK hP rfl rfl) hPc hKc hDc hAm hTh hAs hS) rfl rfl hl.1 rfl (lv_room (Nat.le_of_ble_eq_true rfl)) d_Gr_reachedFrom_21 ⟨Nat.le_of_ble_eq_true rfl, Nat.le_of_ble_eq_true rfl⟩) hP hD hK hS hA [0] [] rfl rfl (by decide) (by decide) (fun r21 _ H locs er21 hP hD hK hS => ?_)
  have er21 : r21 = 0 := er21
  subst er21
  have hK : va_K D cl [] s := hK
  have hP : va_P D cl [(gr, .inr (2, [.ref gc, .ref gf, .ref gp, .ref gb, .ref gl, .int 0]))] H := hP
  have hD : va_D A [(gr, .inr (2, [.ref gc, .ref gf, .ref gp, .ref gb, .ref gl, .int 0]))] := hD
  refine lv_ior hx hb d_Gr_reachedFrom_24 ?_
  refine xnum (v := 0) (by decide) ?_
  refine lv_istore_n hx hb d_Gr_reachedFrom_25 rfl hl (by decide) rfl (fun ls hl => ?_)
  have hl : lv_has ls 4 [(2, .int 0), (3, .int 9), (0, .ref gr), (1, .int x)] := hl
  refine lv_iinc (k := 1) (v := 10) hx hb d_Gr_reachedFrom_26 hl rfl (by decide) (by decide) rfl (fun ls hl => ?_)
  have hl : lv_has ls 4 [(3, .int 10), (2, .int 0), (0, .ref gr), (1, .int x)] := hl
  refine lv_goto (tgt := 8) hx hb d_Gr_reachedFrom_29 (by decide) ?_
  refine lv_iload_n hx hb d_Gr_reachedFrom_8 rfl (lv_at hl 0 rfl) ?_
  refine lv_bipush (v := 12) hx hb d_Gr_reachedFrom_9 (by decide) ?_
  refine lv_icmp_ge (tgt := 32) hx hb d_Gr_reachedFrom_11 (by decide) (fun b11 => absurd b11 (by decide)) (fun b11 => ?_)
  refine lv_iload_n hx hb d_Gr_reachedFrom_14 rfl (lv_at hl 1 rfl) ?_
  refine lv_aload_n hx hb d_Gr_reachedFrom_15 rfl (lv_at hl 2 rfl) ?_
  refine lv_aload_n hx hb d_Gr_reachedFrom_16 rfl (lv_at hl 2 rfl) ?_
  refine lv_iload_n hx hb d_Gr_reachedFrom_17 rfl (lv_at hl 1 rfl) ?_
  have hPc := hP.sub (ws' := [(gr, .inr (2, [.ref gc, .ref gf, .ref gp, .ref gb, .ref gl, .int 0]))]) [0] rfl
  have hDc := hD.sub (ws' := [(gr, .inr (2, [.ref gc, .ref gf, .ref gp, .ref gb, .ref gl, .int 0]))]) [0] (by decide) rfl
  have hKc := hK.sub (tys' := []) [] rfl
  refine xgi (wsC := [(gr, .inr (2, [.ref gc, .ref gf, .ref gp, .ref gb, .ref gl, .int 0]))]) (wr := []) (va_runV (As := [.int 0]) (rest := [.ref gr, .int 0]) ⟨hx, hb, hml, hown, hts⟩ (c_Gr_waitedForBy l  D gr gc gf gp gb gl 0 _ ) ⟨(callB_of 1 hts (x_good k_Gr_waitedForBy) rfl rfl rfl (hts _ (List.mem_cons_of_mem _ tw_3)) (hts _ (List.mem_cons_of_mem _ tw_468)) (by decide +kernel) ⟨Nat.le_of_ble_eq_true rfl, Nat.le_of_ble_eq_true rfl⟩), (hts _ (List.mem_cons_of_mem _ tw_470)), (hts _ (List.mem_cons_of_mem _ (x_sel 25 rfl)))⟩ (xP_V (va_recv (ci := 2) (q0 := 0) hK hP rfl rfl) hPc hKc hDc hAm hTh hAs hS) rfl rfl hl.1 rfl (lv_room (Nat.le_of_ble_eq_true rfl)) d_Gr_reachedFrom_18 ⟨Nat.le_of_ble_eq_true rfl, Nat.le_of_ble_eq_true rfl⟩) hP hD hK hS hA [0] [] rfl rfl (by decide) (by decide) (fun r22 _ H locs er22 hP hD hK hS => ?_)
  have er22 : r22 = 0 := er22
  subst er22
  have hK : va_K D cl [] s := hK
  have hP : va_P D cl [(gr, .inr (2, [.ref gc, .ref gf, .ref gp, .ref gb, .ref gl, .int 0]))] H := hP
  have hD : va_D A [(gr, .inr (2, [.ref gc, .ref gf, .ref gp, .ref gb, .ref gl, .int 0]))] := hD
  have hPc := hP.sub (ws' := [(gr, .inr (2, [.ref gc, .ref gf, .ref gp, .ref gb, .ref gl, .int 0]))]) [0] rfl
  have hDc := hD.sub (ws' := [(gr, .inr (2, [.ref gc, .ref gf, .ref gp, .ref gb, .ref gl, .int 0]))]) [0] (by decide) rfl
  have hKc := hK.sub (tys' := []) [] rfl
  refine xgi (wsC := [(gr, .inr (2, [.ref gc, .ref gf, .ref gp, .ref gb, .ref gl, .int 0]))]) (wr := []) (va_runV (As := [.int 0]) (rest := [.int 0]) ⟨hx, hb, hml, hown, hts⟩ (c_Gr_makersOf l  D gr gc gf gp gb gl 0 _ ) ⟨(callB_of 1 hts (x_good k_Gr_makersOf) rfl rfl rfl (hts _ (List.mem_cons_of_mem _ tw_3)) (hts _ (List.mem_cons_of_mem _ tw_464)) (by decide +kernel) ⟨Nat.le_of_ble_eq_true rfl, Nat.le_of_ble_eq_true rfl⟩), (hts _ (List.mem_cons_of_mem _ tw_466)), (hts _ (List.mem_cons_of_mem _ (x_sel 24 rfl)))⟩ (xP_V (va_recv (ci := 2) (q0 := 0) hK hP rfl rfl) hPc hKc hDc hAm hTh hAs hS) rfl rfl hl.1 rfl (lv_room (Nat.le_of_ble_eq_true rfl)) d_Gr_reachedFrom_21 ⟨Nat.le_of_ble_eq_true rfl, Nat.le_of_ble_eq_true rfl⟩) hP hD hK hS hA [0] [] rfl rfl (by decide) (by decide) (fun r23 _ H locs er23 hP hD hK hS => ?_)
  have er23 : r23 = 0 := er23
  subst er23
  have hK : va_K D cl [] s := hK
  have hP : va_P D cl [(gr, .inr (2, [.ref gc, .ref gf, .ref gp, .ref gb, .ref gl, .int 0]))] H := hP
  have hD : va_D A [(gr, .inr (2, [.ref gc, .ref gf, .ref gp, .ref gb, .ref gl, .int 0]))] := hD
  refine lv_ior hx hb d_Gr_reachedFrom_24 ?_
  refine xnum (v := 0) (by decide) ?_
  refine lv_istore_n hx hb d_Gr_reachedFrom_25 rfl hl (by decide) rfl (fun ls hl => ?_)
  have hl : lv_has ls 4 [(2, .int 0), (3, .int 10), (0, .ref gr), (1, .int x)] := hl
  refine lv_iinc (k := 1) (v := 11) hx hb d_Gr_reachedFrom_26 hl rfl (by decide) (by decide) rfl (fun ls hl => ?_)
  have hl : lv_has ls 4 [(3, .int 11), (2, .int 0), (0, .ref gr), (1, .int x)] := hl
  refine lv_goto (tgt := 8) hx hb d_Gr_reachedFrom_29 (by decide) ?_
  refine lv_iload_n hx hb d_Gr_reachedFrom_8 rfl (lv_at hl 0 rfl) ?_
  refine lv_bipush (v := 12) hx hb d_Gr_reachedFrom_9 (by decide) ?_
  refine lv_icmp_ge (tgt := 32) hx hb d_Gr_reachedFrom_11 (by decide) (fun b11 => absurd b11 (by decide)) (fun b11 => ?_)
  refine lv_iload_n hx hb d_Gr_reachedFrom_14 rfl (lv_at hl 1 rfl) ?_
  refine lv_aload_n hx hb d_Gr_reachedFrom_15 rfl (lv_at hl 2 rfl) ?_
  refine lv_aload_n hx hb d_Gr_reachedFrom_16 rfl (lv_at hl 2 rfl) ?_
  refine lv_iload_n hx hb d_Gr_reachedFrom_17 rfl (lv_at hl 1 rfl) ?_
  have hPc := hP.sub (ws' := [(gr, .inr (2, [.ref gc, .ref gf, .ref gp, .ref gb, .ref gl, .int 0]))]) [0] rfl
  have hDc := hD.sub (ws' := [(gr, .inr (2, [.ref gc, .ref gf, .ref gp, .ref gb, .ref gl, .int 0]))]) [0] (by decide) rfl
  have hKc := hK.sub (tys' := []) [] rfl
  refine xgi (wsC := [(gr, .inr (2, [.ref gc, .ref gf, .ref gp, .ref gb, .ref gl, .int 0]))]) (wr := []) (va_runV (As := [.int 0]) (rest := [.ref gr, .int 0]) ⟨hx, hb, hml, hown, hts⟩ (c_Gr_waitedForBy l  D gr gc gf gp gb gl 0 _ ) ⟨(callB_of 1 hts (x_good k_Gr_waitedForBy) rfl rfl rfl (hts _ (List.mem_cons_of_mem _ tw_3)) (hts _ (List.mem_cons_of_mem _ tw_468)) (by decide +kernel) ⟨Nat.le_of_ble_eq_true rfl, Nat.le_of_ble_eq_true rfl⟩), (hts _ (List.mem_cons_of_mem _ tw_470)), (hts _ (List.mem_cons_of_mem _ (x_sel 25 rfl)))⟩ (xP_V (va_recv (ci := 2) (q0 := 0) hK hP rfl rfl) hPc hKc hDc hAm hTh hAs hS) rfl rfl hl.1 rfl (lv_room (Nat.le_of_ble_eq_true rfl)) d_Gr_reachedFrom_18 ⟨Nat.le_of_ble_eq_true rfl, Nat.le_of_ble_eq_true rfl⟩) hP hD hK hS hA [0] [] rfl rfl (by decide) (by decide) (fun r24 _ H locs er24 hP hD hK hS => ?_)
  have er24 : r24 = 0 := er24
  subst er24
  have hK : va_K D cl [] s := hK
  have hP : va_P D cl [(gr, .inr (2, [.ref gc, .ref gf, .ref gp, .ref gb, .ref gl, .int 0]))] H := hP
  have hD : va_D A [(gr, .inr (2, [.ref gc, .ref gf, .ref gp, .ref gb, .ref gl, .int 0]))] := hD
  have hPc := hP.sub (ws' := [(gr, .inr (2, [.ref gc, .ref gf, .ref gp, .ref gb, .ref gl, .int 0]))]) [0] rfl
  have hDc := hD.sub (ws' := [(gr, .inr (2, [.ref gc, .ref gf, .ref gp, .ref gb, .ref gl, .int 0]))]) [0] (by decide) rfl
  have hKc := hK.sub (tys' := []) [] rfl
  refine xgi (wsC := [(gr, .inr (2, [.ref gc, .ref gf, .ref gp, .ref gb, .ref gl, .int 0]))]) (wr := []) (va_runV (As := [.int 0]) (rest := [.int 0]) ⟨hx, hb, hml, hown, hts⟩ (c_Gr_makersOf l  D gr gc gf gp gb gl 0 _ ) ⟨(callB_of 1 hts (x_good k_Gr_makersOf) rfl rfl rfl (hts _ (List.mem_cons_of_mem _ tw_3)) (hts _ (List.mem_cons_of_mem _ tw_464)) (by decide +kernel) ⟨Nat.le_of_ble_eq_true rfl, Nat.le_of_ble_eq_true rfl⟩), (hts _ (List.mem_cons_of_mem _ tw_466)), (hts _ (List.mem_cons_of_mem _ (x_sel 24 rfl)))⟩ (xP_V (va_recv (ci := 2) (q0 := 0) hK hP rfl rfl) hPc hKc hDc hAm hTh hAs hS) rfl rfl hl.1 rfl (lv_room (Nat.le_of_ble_eq_true rfl)) d_Gr_reachedFrom_21 ⟨Nat.le_of_ble_eq_true rfl, Nat.le_of_ble_eq_true rfl⟩) hP hD hK hS hA [0] [] rfl rfl (by decide) (by decide) (fun r25 _ H locs er25 hP hD hK hS => ?_)
  have er25 : r25 = 0 := er25
  subst er25
  have hK : va_K D cl [] s := hK
  have hP : va_P D cl [(gr, .inr (2, [.ref gc, .ref gf, .ref gp, .ref gb, .ref gl, .int 0]))] H := hP
  have hD : va_D A [(gr, .inr (2, [.ref gc, .ref gf, .ref gp, .ref gb, .ref gl, .int 0]))] := hD
  refine lv_ior hx hb d_Gr_reachedFrom_24 ?_
  refine xnum (v := 0) (by decide) ?_
  refine lv_istore_n hx hb d_Gr_reachedFrom_25 rfl hl (by decide) rfl (fun ls hl => ?_)
  have hl : lv_has ls 4 [(2, .int 0), (3, .int 11), (0, .ref gr), (1, .int x)] := hl
  refine lv_iinc (k := 1) (v := 12) hx hb d_Gr_reachedFrom_26 hl rfl (by decide) (by decide) rfl (fun ls hl => ?_)
  have hl : lv_has ls 4 [(3, .int 12), (2, .int 0), (0, .ref gr), (1, .int x)] := hl
  refine lv_goto (tgt := 8) hx hb d_Gr_reachedFrom_29 (by decide) ?_
  refine lv_iload_n hx hb d_Gr_reachedFrom_8 rfl (lv_at hl 0 rfl) ?_
  refine lv_bipush (v := 12) hx hb d_Gr_reachedFrom_9 (by decide) ?_
  refine lv_icmp_ge (tgt := 32) hx hb d_Gr_reachedFrom_11 (by decide) (fun b11 => ?_) (fun b11 => absurd b11 (by decide))
  refine lv_iload_n hx hb d_Gr_reachedFrom_32 rfl (lv_at hl 1 rfl) ?_
  exact xri () B d_Gr_reachedFrom_33 (rfl) (hP.sub (ws' := [(gr, .inr (2, [.ref gc, .ref gf, .ref gp, .ref gb, .ref gl, .int 0]))]) [0] rfl) (hK.sub (tys' := []) [] rfl) (hD.sub (ws' := [(gr, .inr (2, [.ref gc, .ref gf, .ref gp, .ref gb, .ref gl, .int 0]))]) [0] (by decide) rfl) hS (Nat.le_of_ble_eq_true rfl) (Nat.le_of_ble_eq_true rfl)
theorem d_Gr_hasCycle_0 : decode b_Gr_hasCycle 0 = .ok (.iconst (0), 1) := by decide +kernel
theorem d_Gr_hasCycle_1 : decode b_Gr_hasCycle 1 = .ok (.istore_n 2, 1) := by decide +kernel
theorem d_Gr_hasCycle_2 : decode b_Gr_hasCycle 2 = .ok (.iconst (0), 1) := by decide +kernel
theorem d_Gr_hasCycle_3 : decode b_Gr_hasCycle 3 = .ok (.istore_n 3, 1) := by decide +kernel
theorem d_Gr_hasCycle_4 : decode b_Gr_hasCycle 4 = .ok (.iload_n 3, 1) := by decide +kernel
theorem d_Gr_hasCycle_5 : decode b_Gr_hasCycle 5 = .ok (.bipush (12), 2) := by decide +kernel
theorem d_Gr_hasCycle_7 : decode b_Gr_hasCycle 7 = .ok (.if_icmp .ge (30), 3) := by decide +kernel
theorem d_Gr_hasCycle_10 : decode b_Gr_hasCycle 10 = .ok (.aload_n 0, 1) := by decide +kernel
theorem d_Gr_hasCycle_11 : decode b_Gr_hasCycle 11 = .ok (.iload_n 1, 1) := by decide +kernel
theorem d_Gr_hasCycle_12 : decode b_Gr_hasCycle 12 = .ok (.iload_n 2, 1) := by decide +kernel
theorem d_Gr_hasCycle_13 : decode b_Gr_hasCycle 13 = .ok (.invokevirtual 61, 3) := by decide +kernel
theorem d_Gr_hasCycle_16 : decode b_Gr_hasCycle 16 = .ok (.istore 4, 2) := by decide +kernel
theorem d_Gr_hasCycle_18 : decode b_Gr_hasCycle 18 = .ok (.iload 4, 2) := by decide +kernel
theorem d_Gr_hasCycle_20 : decode b_Gr_hasCycle 20 = .ok (.iconst (-1), 1) := by decide +kernel
theorem d_Gr_hasCycle_21 : decode b_Gr_hasCycle 21 = .ok (.if_icmp .eq (10), 3) := by decide +kernel
theorem d_Gr_hasCycle_31 : decode b_Gr_hasCycle 31 = .ok (.iinc 3 (1), 3) := by decide +kernel
theorem d_Gr_hasCycle_34 : decode b_Gr_hasCycle 34 = .ok (.goto (-30), 3) := by decide +kernel
theorem d_Gr_hasCycle_37 : decode b_Gr_hasCycle 37 = .ok (.iload_n 2, 1) := by decide +kernel
theorem d_Gr_hasCycle_38 : decode b_Gr_hasCycle 38 = .ok (.iload_n 1, 1) := by decide +kernel
theorem d_Gr_hasCycle_39 : decode b_Gr_hasCycle 39 = .ok (.if_icmp .eq (7), 3) := by decide +kernel
theorem d_Gr_hasCycle_46 : decode b_Gr_hasCycle 46 = .ok (.iconst (0), 1) := by decide +kernel
theorem d_Gr_hasCycle_47 : decode b_Gr_hasCycle 47 = .ok (.ireturn, 1) := by decide +kernel
set_option maxRecDepth 20000 in
set_option maxHeartbeats 4000000 in
theorem c_Gr_hasCycle (l : Launch) (D : va_G) (gr : Nat) (gc : Nat) (gf : Nat) (gp : Nat) (gb : Nat) (gl : Nat) (sz : Nat)  : xMi l y_Gr_hasCycle w_Gr_hasCycle { frames := 1, cells := 0, slots := 0, locals := 30 } D cl [.ref gr, .int 0] sz [] [(gr, .inr (2, [.ref gc, .ref gf, .ref gp, .ref gb, .ref gl, .int 0]))] (fun (r : Int32) (_ : Unit) => r = 0) (fun _ => [(gr, .inr (2, [.ref gc, .ref gf, .ref gp, .ref gb, .ref gl, .int 0]))]) (fun _ => []) := by
  refine xMi_of (by decide +kernel) rfl (Nat.le_of_ble_eq_true rfl) ?_
  intro p e s m args below meth c ls A B hAe hA hsz hP hK hD hS hAm hTh hAs hl
  obtain ⟨⟨hx, hb, hml, hown, hts⟩, hret, hlk, hnm, hemp⟩ := id B
  have hl : lv_has ls 5 [(0, .ref gr), (1, .int 0)] := hl
  refine lv_iconst (v := 0) hx hb d_Gr_hasCycle_0 (by decide) ?_
  refine lv_istore_n hx hb d_Gr_hasCycle_1 rfl hl (by decide) rfl (fun ls hl => ?_)
  have hl : lv_has ls 5 [(2, .int 0), (0, .ref gr), (1, .int 0)] := hl
  refine lv_iconst (v := 0) hx hb d_Gr_hasCycle_2 (by decide) ?_
  refine lv_istore_n hx hb d_Gr_hasCycle_3 rfl hl (by decide) rfl (fun ls hl => ?_)
  have hl : lv_has ls 5 [(3, .int 0), (2, .int 0), (0, .ref gr), (1, .int 0)] := hl
  refine lv_iload_n hx hb d_Gr_hasCycle_4 rfl (lv_at hl 0 rfl) ?_
  refine lv_bipush (v := 12) hx hb d_Gr_hasCycle_5 (by decide) ?_
  refine lv_icmp_ge (tgt := 37) hx hb d_Gr_hasCycle_7 (by decide) (fun b7 => absurd b7 (by decide)) (fun b7 => ?_)
  refine lv_aload_n hx hb d_Gr_hasCycle_10 rfl (lv_at hl 2 rfl) ?_
  refine lv_iload_n hx hb d_Gr_hasCycle_11 rfl (lv_at hl 3 rfl) ?_
  refine lv_iload_n hx hb d_Gr_hasCycle_12 rfl (lv_at hl 1 rfl) ?_
  have hPc := hP.sub (ws' := [(gr, .inr (2, [.ref gc, .ref gf, .ref gp, .ref gb, .ref gl, .int 0]))]) [0] rfl
  have hDc := hD.sub (ws' := [(gr, .inr (2, [.ref gc, .ref gf, .ref gp, .ref gb, .ref gl, .int 0]))]) [0] (by decide) rfl
  have hKc := hK.sub (tys' := []) [] rfl
  refine xgi (wsC := [(gr, .inr (2, [.ref gc, .ref gf, .ref gp, .ref gb, .ref gl, .int 0]))]) (wr := []) (va_runV (As := [.int 0, .int 0]) (rest := []) ⟨hx, hb, hml, hown, hts⟩ (c_Gr_nextToLookAt l  D gr gc gf gp gb gl 0 0 _ ) ⟨(callB_of 2 hts (x_good k_Gr_nextToLookAt) rfl rfl rfl (hts _ (List.mem_cons_of_mem _ tw_3)) (hts _ (List.mem_cons_of_mem _ tw_477)) (by decide +kernel) ⟨Nat.le_of_ble_eq_true rfl, Nat.le_of_ble_eq_true rfl⟩), (hts _ (List.mem_cons_of_mem _ tw_479)), (hts _ (List.mem_cons_of_mem _ (x_sel 27 rfl)))⟩ (xP_V (va_recv (ci := 2) (q0 := 0) hK hP rfl rfl) hPc hKc hDc hAm hTh hAs hS) rfl rfl hl.1 rfl (lv_room (Nat.le_of_ble_eq_true rfl)) d_Gr_hasCycle_13 ⟨Nat.le_of_ble_eq_true rfl, Nat.le_of_ble_eq_true rfl⟩) hP hD hK hS hA [0] [] rfl rfl (by decide) (by decide) (fun r1 _ H locs er1 hP hD hK hS => ?_)
  have er1 : r1 = (-1) := er1
  subst er1
  have hK : va_K D cl [] s := hK
  have hP : va_P D cl [(gr, .inr (2, [.ref gc, .ref gf, .ref gp, .ref gb, .ref gl, .int 0]))] H := hP
  have hD : va_D A [(gr, .inr (2, [.ref gc, .ref gf, .ref gp, .ref gb, .ref gl, .int 0]))] := hD
  refine lv_istore hx hb d_Gr_hasCycle_16 hl (by decide) rfl (fun ls hl => ?_)
  have hl : lv_has ls 5 [(4, .int (-1)), (3, .int 0), (2, .int 0), (0, .ref gr), (1, .int 0)] := hl
  refine lv_iload hx hb d_Gr_hasCycle_18 (lv_at hl 0 rfl) ?_
  refine lv_iconst (v := (-1)) hx hb d_Gr_hasCycle_20 (by decide) ?_
  refine lv_icmp_eq (tgt := 31) hx hb d_Gr_hasCycle_21 (by decide) (fun b21 => ?_) (fun b21 => absurd b21 (by decide))
  refine lv_iinc (k := 1) (v := 1) hx hb d_Gr_hasCycle_31 hl rfl (by decide) (by decide) rfl (fun ls hl => ?_)
  have hl : lv_has ls 5 [(3, .int 1), (4, .int (-1)), (2, .int 0), (0, .ref gr), (1, .int 0)] := hl
  refine lv_goto (tgt := 4) hx hb d_Gr_hasCycle_34 (by decide) ?_
  refine lv_iload_n hx hb d_Gr_hasCycle_4 rfl (lv_at hl 0 rfl) ?_
  refine lv_bipush (v := 12) hx hb d_Gr_hasCycle_5 (by decide) ?_
  refine lv_icmp_ge (tgt := 37) hx hb d_Gr_hasCycle_7 (by decide) (fun b7 => absurd b7 (by decide)) (fun b7 => ?_)
  refine lv_aload_n hx hb d_Gr_hasCycle_10 rfl (lv_at hl 3 rfl) ?_
  refine lv_iload_n hx hb d_Gr_hasCycle_11 rfl (lv_at hl 4 rfl) ?_
  refine lv_iload_n hx hb d_Gr_hasCycle_12 rfl (lv_at hl 2 rfl) ?_
  have hPc := hP.sub (ws' := [(gr, .inr (2, [.ref gc, .ref gf, .ref gp, .ref gb, .ref gl, .int 0]))]) [0] rfl
  have hDc := hD.sub (ws' := [(gr, .inr (2, [.ref gc, .ref gf, .ref gp, .ref gb, .ref gl, .int 0]))]) [0] (by decide) rfl
  have hKc := hK.sub (tys' := []) [] rfl
  refine xgi (wsC := [(gr, .inr (2, [.ref gc, .ref gf, .ref gp, .ref gb, .ref gl, .int 0]))]) (wr := []) (va_runV (As := [.int 0, .int 0]) (rest := []) ⟨hx, hb, hml, hown, hts⟩ (c_Gr_nextToLookAt l  D gr gc gf gp gb gl 0 0 _ ) ⟨(callB_of 2 hts (x_good k_Gr_nextToLookAt) rfl rfl rfl (hts _ (List.mem_cons_of_mem _ tw_3)) (hts _ (List.mem_cons_of_mem _ tw_477)) (by decide +kernel) ⟨Nat.le_of_ble_eq_true rfl, Nat.le_of_ble_eq_true rfl⟩), (hts _ (List.mem_cons_of_mem _ tw_479)), (hts _ (List.mem_cons_of_mem _ (x_sel 27 rfl)))⟩ (xP_V (va_recv (ci := 2) (q0 := 0) hK hP rfl rfl) hPc hKc hDc hAm hTh hAs hS) rfl rfl hl.1 rfl (lv_room (Nat.le_of_ble_eq_true rfl)) d_Gr_hasCycle_13 ⟨Nat.le_of_ble_eq_true rfl, Nat.le_of_ble_eq_true rfl⟩) hP hD hK hS hA [0] [] rfl rfl (by decide) (by decide) (fun r2 _ H locs er2 hP hD hK hS => ?_)
  have er2 : r2 = (-1) := er2
  subst er2
  have hK : va_K D cl [] s := hK
  have hP : va_P D cl [(gr, .inr (2, [.ref gc, .ref gf, .ref gp, .ref gb, .ref gl, .int 0]))] H := hP
  have hD : va_D A [(gr, .inr (2, [.ref gc, .ref gf, .ref gp, .ref gb, .ref gl, .int 0]))] := hD
  refine lv_istore hx hb d_Gr_hasCycle_16 hl (by decide) rfl (fun ls hl => ?_)
  have hl : lv_has ls 5 [(4, .int (-1)), (3, .int 1), (2, .int 0), (0, .ref gr), (1, .int 0)] := hl
  refine lv_iload hx hb d_Gr_hasCycle_18 (lv_at hl 0 rfl) ?_
  refine lv_iconst (v := (-1)) hx hb d_Gr_hasCycle_20 (by decide) ?_
  refine lv_icmp_eq (tgt := 31) hx hb d_Gr_hasCycle_21 (by decide) (fun b21 => ?_) (fun b21 => absurd b21 (by decide))
  refine lv_iinc (k := 1) (v := 2) hx hb d_Gr_hasCycle_31 hl rfl (by decide) (by decide) rfl (fun ls hl => ?_)
  have hl : lv_has ls 5 [(3, .int 2), (4, .int (-1)), (2, .int 0), (0, .ref gr), (1, .int 0)] := hl
  refine lv_goto (tgt := 4) hx hb d_Gr_hasCycle_34 (by decide) ?_
  refine lv_iload_n hx hb d_Gr_hasCycle_4 rfl (lv_at hl 0 rfl) ?_
  refine lv_bipush (v := 12) hx hb d_Gr_hasCycle_5 (by decide) ?_
  refine lv_icmp_ge (tgt := 37) hx hb d_Gr_hasCycle_7 (by decide) (fun b7 => absurd b7 (by decide)) (fun b7 => ?_)
  refine lv_aload_n hx hb d_Gr_hasCycle_10 rfl (lv_at hl 3 rfl) ?_
  refine lv_iload_n hx hb d_Gr_hasCycle_11 rfl (lv_at hl 4 rfl) ?_
  refine lv_iload_n hx hb d_Gr_hasCycle_12 rfl (lv_at hl 2 rfl) ?_
  have hPc := hP.sub (ws' := [(gr, .inr (2, [.ref gc, .ref gf, .ref gp, .ref gb, .ref gl, .int 0]))]) [0] rfl
  have hDc := hD.sub (ws' := [(gr, .inr (2, [.ref gc, .ref gf, .ref gp, .ref gb, .ref gl, .int 0]))]) [0] (by decide) rfl
  have hKc := hK.sub (tys' := []) [] rfl
  refine xgi (wsC := [(gr, .inr (2, [.ref gc, .ref gf, .ref gp, .ref gb, .ref gl, .int 0]))]) (wr := []) (va_runV (As := [.int 0, .int 0]) (rest := []) ⟨hx, hb, hml, hown, hts⟩ (c_Gr_nextToLookAt l  D gr gc gf gp gb gl 0 0 _ ) ⟨(callB_of 2 hts (x_good k_Gr_nextToLookAt) rfl rfl rfl (hts _ (List.mem_cons_of_mem _ tw_3)) (hts _ (List.mem_cons_of_mem _ tw_477)) (by decide +kernel) ⟨Nat.le_of_ble_eq_true rfl, Nat.le_of_ble_eq_true rfl⟩), (hts _ (List.mem_cons_of_mem _ tw_479)), (hts _ (List.mem_cons_of_mem _ (x_sel 27 rfl)))⟩ (xP_V (va_recv (ci := 2) (q0 := 0) hK hP rfl rfl) hPc hKc hDc hAm hTh hAs hS) rfl rfl hl.1 rfl (lv_room (Nat.le_of_ble_eq_true rfl)) d_Gr_hasCycle_13 ⟨Nat.le_of_ble_eq_true rfl, Nat.le_of_ble_eq_true rfl⟩) hP hD hK hS hA [0] [] rfl rfl (by decide) (by decide) (fun r3 _ H locs er3 hP hD hK hS => ?_)
  have er3 : r3 = (-1) := er3
  subst er3
  have hK : va_K D cl [] s := hK
  have hP : va_P D cl [(gr, .inr (2, [.ref gc, .ref gf, .ref gp, .ref gb, .ref gl, .int 0]))] H := hP
  have hD : va_D A [(gr, .inr (2, [.ref gc, .ref gf, .ref gp, .ref gb, .ref gl, .int 0]))] := hD
  refine lv_istore hx hb d_Gr_hasCycle_16 hl (by decide) rfl (fun ls hl => ?_)
  have hl : lv_has ls 5 [(4, .int (-1)), (3, .int 2), (2, .int 0), (0, .ref gr), (1, .int 0)] := hl
  refine lv_iload hx hb d_Gr_hasCycle_18 (lv_at hl 0 rfl) ?_
  refine lv_iconst (v := (-1)) hx hb d_Gr_hasCycle_20 (by decide) ?_
  refine lv_icmp_eq (tgt := 31) hx hb d_Gr_hasCycle_21 (by decide) (fun b21 => ?_) (fun b21 => absurd b21 (by decide))
  refine lv_iinc (k := 1) (v := 3) hx hb d_Gr_hasCycle_31 hl rfl (by decide) (by decide) rfl (fun ls hl => ?_)
  have hl : lv_has ls 5 [(3, .int 3), (4, .int (-1)), (2, .int 0), (0, .ref gr), (1, .int 0)] := hl
  refine lv_goto (tgt := 4) hx hb d_Gr_hasCycle_34 (by decide) ?_
  refine lv_iload_n hx hb d_Gr_hasCycle_4 rfl (lv_at hl 0 rfl) ?_
  refine lv_bipush (v := 12) hx hb d_Gr_hasCycle_5 (by decide) ?_
  refine lv_icmp_ge (tgt := 37) hx hb d_Gr_hasCycle_7 (by decide) (fun b7 => absurd b7 (by decide)) (fun b7 => ?_)
  refine lv_aload_n hx hb d_Gr_hasCycle_10 rfl (lv_at hl 3 rfl) ?_
  refine lv_iload_n hx hb d_Gr_hasCycle_11 rfl (lv_at hl 4 rfl) ?_
  refine lv_iload_n hx hb d_Gr_hasCycle_12 rfl (lv_at hl 2 rfl) ?_
  have hPc := hP.sub (ws' := [(gr, .inr (2, [.ref gc, .ref gf, .ref gp, .ref gb, .ref gl, .int 0]))]) [0] rfl
  have hDc := hD.sub (ws' := [(gr, .inr (2, [.ref gc, .ref gf, .ref gp, .ref gb, .ref gl, .int 0]))]) [0] (by decide) rfl
  have hKc := hK.sub (tys' := []) [] rfl
  refine xgi (wsC := [(gr, .inr (2, [.ref gc, .ref gf, .ref gp, .ref gb, .ref gl, .int 0]))]) (wr := []) (va_runV (As := [.int 0, .int 0]) (rest := []) ⟨hx, hb, hml, hown, hts⟩ (c_Gr_nextToLookAt l  D gr gc gf gp gb gl 0 0 _ ) ⟨(callB_of 2 hts (x_good k_Gr_nextToLookAt) rfl rfl rfl (hts _ (List.mem_cons_of_mem _ tw_3)) (hts _ (List.mem_cons_of_mem _ tw_477)) (by decide +kernel) ⟨Nat.le_of_ble_eq_true rfl, Nat.le_of_ble_eq_true rfl⟩), (hts _ (List.mem_cons_of_mem _ tw_479)), (hts _ (List.mem_cons_of_mem _ (x_sel 27 rfl)))⟩ (xP_V (va_recv (ci := 2) (q0 := 0) hK hP rfl rfl) hPc hKc hDc hAm hTh hAs hS) rfl rfl hl.1 rfl (lv_room (Nat.le_of_ble_eq_true rfl)) d_Gr_hasCycle_13 ⟨Nat.le_of_ble_eq_true rfl, Nat.le_of_ble_eq_true rfl⟩) hP hD hK hS hA [0] [] rfl rfl (by decide) (by decide) (fun r4 _ H locs er4 hP hD hK hS => ?_)
  have er4 : r4 = (-1) := er4
  subst er4
  have hK : va_K D cl [] s := hK
  have hP : va_P D cl [(gr, .inr (2, [.ref gc, .ref gf, .ref gp, .ref gb, .ref gl, .int 0]))] H := hP
  have hD : va_D A [(gr, .inr (2, [.ref gc, .ref gf, .ref gp, .ref gb, .ref gl, .int 0]))] := hD
  refine lv_istore hx hb d_Gr_hasCycle_16 hl (by decide) rfl (fun ls hl => ?_)
  have hl : lv_has ls 5 [(4, .int (-1)), (3, .int 3), (2, .int 0), (0, .ref gr), (1, .int 0)] := hl
  refine lv_iload hx hb d_Gr_hasCycle_18 (lv_at hl 0 rfl) ?_
  refine lv_iconst (v := (-1)) hx hb d_Gr_hasCycle_20 (by decide) ?_
  refine lv_icmp_eq (tgt := 31) hx hb d_Gr_hasCycle_21 (by decide) (fun b21 => ?_) (fun b21 => absurd b21 (by decide))
  refine lv_iinc (k := 1) (v := 4) hx hb d_Gr_hasCycle_31 hl rfl (by decide) (by decide) rfl (fun ls hl => ?_)
  have hl : lv_has ls 5 [(3, .int 4), (4, .int (-1)), (2, .int 0), (0, .ref gr), (1, .int 0)] := hl
  refine lv_goto (tgt := 4) hx hb d_Gr_hasCycle_34 (by decide) ?_
  refine lv_iload_n hx hb d_Gr_hasCycle_4 rfl (lv_at hl 0 rfl) ?_
  refine lv_bipush (v := 12) hx hb d_Gr_hasCycle_5 (by decide) ?_
  refine lv_icmp_ge (tgt := 37) hx hb d_Gr_hasCycle_7 (by decide) (fun b7 => absurd b7 (by decide)) (fun b7 => ?_)
  refine lv_aload_n hx hb d_Gr_hasCycle_10 rfl (lv_at hl 3 rfl) ?_
  refine lv_iload_n hx hb d_Gr_hasCycle_11 rfl (lv_at hl 4 rfl) ?_
  refine lv_iload_n hx hb d_Gr_hasCycle_12 rfl (lv_at hl 2 rfl) ?_
  have hPc := hP.sub (ws' := [(gr, .inr (2, [.ref gc, .ref gf, .ref gp, .ref gb, .ref gl, .int 0]))]) [0] rfl
  have hDc := hD.sub (ws' := [(gr, .inr (2, [.ref gc, .ref gf, .ref gp, .ref gb, .ref gl, .int 0]))]) [0] (by decide) rfl
  have hKc := hK.sub (tys' := []) [] rfl
  refine xgi (wsC := [(gr, .inr (2, [.ref gc, .ref gf, .ref gp, .ref gb, .ref gl, .int 0]))]) (wr := []) (va_runV (As := [.int 0, .int 0]) (rest := []) ⟨hx, hb, hml, hown, hts⟩ (c_Gr_nextToLookAt l  D gr gc gf gp gb gl 0 0 _ ) ⟨(callB_of 2 hts (x_good k_Gr_nextToLookAt) rfl rfl rfl (hts _ (List.mem_cons_of_mem _ tw_3)) (hts _ (List.mem_cons_of_mem _ tw_477)) (by decide +kernel) ⟨Nat.le_of_ble_eq_true rfl, Nat.le_of_ble_eq_true rfl⟩), (hts _ (List.mem_cons_of_mem _ tw_479)), (hts _ (List.mem_cons_of_mem _ (x_sel 27 rfl)))⟩ (xP_V (va_recv (ci := 2) (q0 := 0) hK hP rfl rfl) hPc hKc hDc hAm hTh hAs hS) rfl rfl hl.1 rfl (lv_room (Nat.le_of_ble_eq_true rfl)) d_Gr_hasCycle_13 ⟨Nat.le_of_ble_eq_true rfl, Nat.le_of_ble_eq_true rfl⟩) hP hD hK hS hA [0] [] rfl rfl (by decide) (by decide) (fun r5 _ H locs er5 hP hD hK hS => ?_)
  have er5 : r5 = (-1) := er5
  subst er5
  have hK : va_K D cl [] s := hK
  have hP : va_P D cl [(gr, .inr (2, [.ref gc, .ref gf, .ref gp, .ref gb, .ref gl, .int 0]))] H := hP
  have hD : va_D A [(gr, .inr (2, [.ref gc, .ref gf, .ref gp, .ref gb, .ref gl, .int 0]))] := hD
  refine lv_istore hx hb d_Gr_hasCycle_16 hl (by decide) rfl (fun ls hl => ?_)
  have hl : lv_has ls 5 [(4, .int (-1)), (3, .int 4), (2, .int 0), (0, .ref gr), (1, .int 0)] := hl
  refine lv_iload hx hb d_Gr_hasCycle_18 (lv_at hl 0 rfl) ?_
  refine lv_iconst (v := (-1)) hx hb d_Gr_hasCycle_20 (by decide) ?_
  refine lv_icmp_eq (tgt := 31) hx hb d_Gr_hasCycle_21 (by decide) (fun b21 => ?_) (fun b21 => absurd b21 (by decide))
  refine lv_iinc (k := 1) (v := 5) hx hb d_Gr_hasCycle_31 hl rfl (by decide) (by decide) rfl (fun ls hl => ?_)
  have hl : lv_has ls 5 [(3, .int 5), (4, .int (-1)), (2, .int 0), (0, .ref gr), (1, .int 0)] := hl
  refine lv_goto (tgt := 4) hx hb d_Gr_hasCycle_34 (by decide) ?_
  refine lv_iload_n hx hb d_Gr_hasCycle_4 rfl (lv_at hl 0 rfl) ?_
  refine lv_bipush (v := 12) hx hb d_Gr_hasCycle_5 (by decide) ?_
  refine lv_icmp_ge (tgt := 37) hx hb d_Gr_hasCycle_7 (by decide) (fun b7 => absurd b7 (by decide)) (fun b7 => ?_)
  refine lv_aload_n hx hb d_Gr_hasCycle_10 rfl (lv_at hl 3 rfl) ?_
  refine lv_iload_n hx hb d_Gr_hasCycle_11 rfl (lv_at hl 4 rfl) ?_
  refine lv_iload_n hx hb d_Gr_hasCycle_12 rfl (lv_at hl 2 rfl) ?_
  have hPc := hP.sub (ws' := [(gr, .inr (2, [.ref gc, .ref gf, .ref gp, .ref gb, .ref gl, .int 0]))]) [0] rfl
  have hDc := hD.sub (ws' := [(gr, .inr (2, [.ref gc, .ref gf, .ref gp, .ref gb, .ref gl, .int 0]))]) [0] (by decide) rfl
  have hKc := hK.sub (tys' := []) [] rfl
  refine xgi (wsC := [(gr, .inr (2, [.ref gc, .ref gf, .ref gp, .ref gb, .ref gl, .int 0]))]) (wr := []) (va_runV (As := [.int 0, .int 0]) (rest := []) ⟨hx, hb, hml, hown, hts⟩ (c_Gr_nextToLookAt l  D gr gc gf gp gb gl 0 0 _ ) ⟨(callB_of 2 hts (x_good k_Gr_nextToLookAt) rfl rfl rfl (hts _ (List.mem_cons_of_mem _ tw_3)) (hts _ (List.mem_cons_of_mem _ tw_477)) (by decide +kernel) ⟨Nat.le_of_ble_eq_true rfl, Nat.le_of_ble_eq_true rfl⟩), (hts _ (List.mem_cons_of_mem _ tw_479)), (hts _ (List.mem_cons_of_mem _ (x_sel 27 rfl)))⟩ (xP_V (va_recv (ci := 2) (q0 := 0) hK hP rfl rfl) hPc hKc hDc hAm hTh hAs hS) rfl rfl hl.1 rfl (lv_room (Nat.le_of_ble_eq_true rfl)) d_Gr_hasCycle_13 ⟨Nat.le_of_ble_eq_true rfl, Nat.le_of_ble_eq_true rfl⟩) hP hD hK hS hA [0] [] rfl rfl (by decide) (by decide) (fun r6 _ H locs er6 hP hD hK hS => ?_)
  have er6 : r6 = (-1) := er6
  subst er6
  have hK : va_K D cl [] s := hK
  have hP : va_P D cl [(gr, .inr (2, [.ref gc, .ref gf, .ref gp, .ref gb, .ref gl, .int 0]))] H := hP
  have hD : va_D A [(gr, .inr (2, [.ref gc, .ref gf, .ref gp, .ref gb, .ref gl, .int 0]))] := hD
  refine lv_istore hx hb d_Gr_hasCycle_16 hl (by decide) rfl (fun ls hl => ?_)
  have hl : lv_has ls 5 [(4, .int (-1)), (3, .int 5), (2, .int 0), (0, .ref gr), (1, .int 0)] := hl
  refine lv_iload hx hb d_Gr_hasCycle_18 (lv_at hl 0 rfl) ?_
  refine lv_iconst (v := (-1)) hx hb d_Gr_hasCycle_20 (by decide) ?_
  refine lv_icmp_eq (tgt := 31) hx hb d_Gr_hasCycle_21 (by decide) (fun b21 => ?_) (fun b21 => absurd b21 (by decide))
  refine lv_iinc (k := 1) (v := 6) hx hb d_Gr_hasCycle_31 hl rfl (by decide) (by decide) rfl (fun ls hl => ?_)
  have hl : lv_has ls 5 [(3, .int 6), (4, .int (-1)), (2, .int 0), (0, .ref gr), (1, .int 0)] := hl
  refine lv_goto (tgt := 4) hx hb d_Gr_hasCycle_34 (by decide) ?_
  refine lv_iload_n hx hb d_Gr_hasCycle_4 rfl (lv_at hl 0 rfl) ?_
  refine lv_bipush (v := 12) hx hb d_Gr_hasCycle_5 (by decide) ?_
  refine lv_icmp_ge (tgt := 37) hx hb d_Gr_hasCycle_7 (by decide) (fun b7 => absurd b7 (by decide)) (fun b7 => ?_)
  refine lv_aload_n hx hb d_Gr_hasCycle_10 rfl (lv_at hl 3 rfl) ?_
  refine lv_iload_n hx hb d_Gr_hasCycle_11 rfl (lv_at hl 4 rfl) ?_
  refine lv_iload_n hx hb d_Gr_hasCycle_12 rfl (lv_at hl 2 rfl) ?_
  have hPc := hP.sub (ws' := [(gr, .inr (2, [.ref gc, .ref gf, .ref gp, .ref gb, .ref gl, .int 0]))]) [0] rfl
  have hDc := hD.sub (ws' := [(gr, .inr (2, [.ref gc, .ref gf, .ref gp, .ref gb, .ref gl, .int 0]))]) [0] (by decide) rfl
  have hKc := hK.sub (tys' := []) [] rfl
  refine xgi (wsC := [(gr, .inr (2, [.ref gc, .ref gf, .ref gp, .ref gb, .ref gl, .int 0]))]) (wr := []) (va_runV (As := [.int 0, .int 0]) (rest := []) ⟨hx, hb, hml, hown, hts⟩ (c_Gr_nextToLookAt l  D gr gc gf gp gb gl 0 0 _ ) ⟨(callB_of 2 hts (x_good k_Gr_nextToLookAt) rfl rfl rfl (hts _ (List.mem_cons_of_mem _ tw_3)) (hts _ (List.mem_cons_of_mem _ tw_477)) (by decide +kernel) ⟨Nat.le_of_ble_eq_true rfl, Nat.le_of_ble_eq_true rfl⟩), (hts _ (List.mem_cons_of_mem _ tw_479)), (hts _ (List.mem_cons_of_mem _ (x_sel 27 rfl)))⟩ (xP_V (va_recv (ci := 2) (q0 := 0) hK hP rfl rfl) hPc hKc hDc hAm hTh hAs hS) rfl rfl hl.1 rfl (lv_room (Nat.le_of_ble_eq_true rfl)) d_Gr_hasCycle_13 ⟨Nat.le_of_ble_eq_true rfl, Nat.le_of_ble_eq_true rfl⟩) hP hD hK hS hA [0] [] rfl rfl (by decide) (by decide) (fun r7 _ H locs er7 hP hD hK hS => ?_)
  have er7 : r7 = (-1) := er7
  subst er7
  have hK : va_K D cl [] s := hK
  have hP : va_P D cl [(gr, .inr (2, [.ref gc, .ref gf, .ref gp, .ref gb, .ref gl, .int 0]))] H := hP
  have hD : va_D A [(gr, .inr (2, [.ref gc, .ref gf, .ref gp, .ref gb, .ref gl, .int 0]))] := hD
  refine lv_istore hx hb d_Gr_hasCycle_16 hl (by decide) rfl (fun ls hl => ?_)
  have hl : lv_has ls 5 [(4, .int (-1)), (3, .int 6), (2, .int 0), (0, .ref gr), (1, .int 0)] := hl
  refine lv_iload hx hb d_Gr_hasCycle_18 (lv_at hl 0 rfl) ?_
  refine lv_iconst (v := (-1)) hx hb d_Gr_hasCycle_20 (by decide) ?_
  refine lv_icmp_eq (tgt := 31) hx hb d_Gr_hasCycle_21 (by decide) (fun b21 => ?_) (fun b21 => absurd b21 (by decide))
  refine lv_iinc (k := 1) (v := 7) hx hb d_Gr_hasCycle_31 hl rfl (by decide) (by decide) rfl (fun ls hl => ?_)
  have hl : lv_has ls 5 [(3, .int 7), (4, .int (-1)), (2, .int 0), (0, .ref gr), (1, .int 0)] := hl
  refine lv_goto (tgt := 4) hx hb d_Gr_hasCycle_34 (by decide) ?_
  refine lv_iload_n hx hb d_Gr_hasCycle_4 rfl (lv_at hl 0 rfl) ?_
  refine lv_bipush (v := 12) hx hb d_Gr_hasCycle_5 (by decide) ?_
  refine lv_icmp_ge (tgt := 37) hx hb d_Gr_hasCycle_7 (by decide) (fun b7 => absurd b7 (by decide)) (fun b7 => ?_)
  refine lv_aload_n hx hb d_Gr_hasCycle_10 rfl (lv_at hl 3 rfl) ?_
  refine lv_iload_n hx hb d_Gr_hasCycle_11 rfl (lv_at hl 4 rfl) ?_
  refine lv_iload_n hx hb d_Gr_hasCycle_12 rfl (lv_at hl 2 rfl) ?_
  have hPc := hP.sub (ws' := [(gr, .inr (2, [.ref gc, .ref gf, .ref gp, .ref gb, .ref gl, .int 0]))]) [0] rfl
  have hDc := hD.sub (ws' := [(gr, .inr (2, [.ref gc, .ref gf, .ref gp, .ref gb, .ref gl, .int 0]))]) [0] (by decide) rfl
  have hKc := hK.sub (tys' := []) [] rfl
  refine xgi (wsC := [(gr, .inr (2, [.ref gc, .ref gf, .ref gp, .ref gb, .ref gl, .int 0]))]) (wr := []) (va_runV (As := [.int 0, .int 0]) (rest := []) ⟨hx, hb, hml, hown, hts⟩ (c_Gr_nextToLookAt l  D gr gc gf gp gb gl 0 0 _ ) ⟨(callB_of 2 hts (x_good k_Gr_nextToLookAt) rfl rfl rfl (hts _ (List.mem_cons_of_mem _ tw_3)) (hts _ (List.mem_cons_of_mem _ tw_477)) (by decide +kernel) ⟨Nat.le_of_ble_eq_true rfl, Nat.le_of_ble_eq_true rfl⟩), (hts _ (List.mem_cons_of_mem _ tw_479)), (hts _ (List.mem_cons_of_mem _ (x_sel 27 rfl)))⟩ (xP_V (va_recv (ci := 2) (q0 := 0) hK hP rfl rfl) hPc hKc hDc hAm hTh hAs hS) rfl rfl hl.1 rfl (lv_room (Nat.le_of_ble_eq_true rfl)) d_Gr_hasCycle_13 ⟨Nat.le_of_ble_eq_true rfl, Nat.le_of_ble_eq_true rfl⟩) hP hD hK hS hA [0] [] rfl rfl (by decide) (by decide) (fun r8 _ H locs er8 hP hD hK hS => ?_)
  have er8 : r8 = (-1) := er8
  subst er8
  have hK : va_K D cl [] s := hK
  have hP : va_P D cl [(gr, .inr (2, [.ref gc, .ref gf, .ref gp, .ref gb, .ref gl, .int 0]))] H := hP
  have hD : va_D A [(gr, .inr (2, [.ref gc, .ref gf, .ref gp, .ref gb, .ref gl, .int 0]))] := hD
  refine lv_istore hx hb d_Gr_hasCycle_16 hl (by decide) rfl (fun ls hl => ?_)
  have hl : lv_has ls 5 [(4, .int (-1)), (3, .int 7), (2, .int 0), (0, .ref gr), (1, .int 0)] := hl
  refine lv_iload hx hb d_Gr_hasCycle_18 (lv_at hl 0 rfl) ?_
  refine lv_iconst (v := (-1)) hx hb d_Gr_hasCycle_20 (by decide) ?_
  refine lv_icmp_eq (tgt := 31) hx hb d_Gr_hasCycle_21 (by decide) (fun b21 => ?_) (fun b21 => absurd b21 (by decide))
  refine lv_iinc (k := 1) (v := 8) hx hb d_Gr_hasCycle_31 hl rfl (by decide) (by decide) rfl (fun ls hl => ?_)
  have hl : lv_has ls 5 [(3, .int 8), (4, .int (-1)), (2, .int 0), (0, .ref gr), (1, .int 0)] := hl
  refine lv_goto (tgt := 4) hx hb d_Gr_hasCycle_34 (by decide) ?_
  refine lv_iload_n hx hb d_Gr_hasCycle_4 rfl (lv_at hl 0 rfl) ?_
  refine lv_bipush (v := 12) hx hb d_Gr_hasCycle_5 (by decide) ?_
  refine lv_icmp_ge (tgt := 37) hx hb d_Gr_hasCycle_7 (by decide) (fun b7 => absurd b7 (by decide)) (fun b7 => ?_)
  refine lv_aload_n hx hb d_Gr_hasCycle_10 rfl (lv_at hl 3 rfl) ?_
  refine lv_iload_n hx hb d_Gr_hasCycle_11 rfl (lv_at hl 4 rfl) ?_
  refine lv_iload_n hx hb d_Gr_hasCycle_12 rfl (lv_at hl 2 rfl) ?_
  have hPc := hP.sub (ws' := [(gr, .inr (2, [.ref gc, .ref gf, .ref gp, .ref gb, .ref gl, .int 0]))]) [0] rfl
  have hDc := hD.sub (ws' := [(gr, .inr (2, [.ref gc, .ref gf, .ref gp, .ref gb, .ref gl, .int 0]))]) [0] (by decide) rfl
  have hKc := hK.sub (tys' := []) [] rfl
  refine xgi (wsC := [(gr, .inr (2, [.ref gc, .ref gf, .ref gp, .ref gb, .ref gl, .int 0]))]) (wr := []) (va_runV (As := [.int 0, .int 0]) (rest := []) ⟨hx, hb, hml, hown, hts⟩ (c_Gr_nextToLookAt l  D gr gc gf gp gb gl 0 0 _ ) ⟨(callB_of 2 hts (x_good k_Gr_nextToLookAt) rfl rfl rfl (hts _ (List.mem_cons_of_mem _ tw_3)) (hts _ (List.mem_cons_of_mem _ tw_477)) (by decide +kernel) ⟨Nat.le_of_ble_eq_true rfl, Nat.le_of_ble_eq_true rfl⟩), (hts _ (List.mem_cons_of_mem _ tw_479)), (hts _ (List.mem_cons_of_mem _ (x_sel 27 rfl)))⟩ (xP_V (va_recv (ci := 2) (q0 := 0) hK hP rfl rfl) hPc hKc hDc hAm hTh hAs hS) rfl rfl hl.1 rfl (lv_room (Nat.le_of_ble_eq_true rfl)) d_Gr_hasCycle_13 ⟨Nat.le_of_ble_eq_true rfl, Nat.le_of_ble_eq_true rfl⟩) hP hD hK hS hA [0] [] rfl rfl (by decide) (by decide) (fun r9 _ H locs er9 hP hD hK hS => ?_)
  have er9 : r9 = (-1) := er9
  subst er9
  have hK : va_K D cl [] s := hK
  have hP : va_P D cl [(gr, .inr (2, [.ref gc, .ref gf, .ref gp, .ref gb, .ref gl, .int 0]))] H := hP
  have hD : va_D A [(gr, .inr (2, [.ref gc, .ref gf, .ref gp, .ref gb, .ref gl, .int 0]))] := hD
  refine lv_istore hx hb d_Gr_hasCycle_16 hl (by decide) rfl (fun ls hl => ?_)
  have hl : lv_has ls 5 [(4, .int (-1)), (3, .int 8), (2, .int 0), (0, .ref gr), (1, .int 0)] := hl
  refine lv_iload hx hb d_Gr_hasCycle_18 (lv_at hl 0 rfl) ?_
  refine lv_iconst (v := (-1)) hx hb d_Gr_hasCycle_20 (by decide) ?_
  refine lv_icmp_eq (tgt := 31) hx hb d_Gr_hasCycle_21 (by decide) (fun b21 => ?_) (fun b21 => absurd b21 (by decide))
  refine lv_iinc (k := 1) (v := 9) hx hb d_Gr_hasCycle_31 hl rfl (by decide) (by decide) rfl (fun ls hl => ?_)
  have hl : lv_has ls 5 [(3, .int 9), (4, .int (-1)), (2, .int 0), (0, .ref gr), (1, .int 0)] := hl
  refine lv_goto (tgt := 4) hx hb d_Gr_hasCycle_34 (by decide) ?_
  refine lv_iload_n hx hb d_Gr_hasCycle_4 rfl (lv_at hl 0 rfl) ?_
  refine lv_bipush (v := 12) hx hb d_Gr_hasCycle_5 (by decide) ?_
  refine lv_icmp_ge (tgt := 37) hx hb d_Gr_hasCycle_7 (by decide) (fun b7 => absurd b7 (by decide)) (fun b7 => ?_)
  refine lv_aload_n hx hb d_Gr_hasCycle_10 rfl (lv_at hl 3 rfl) ?_
  refine lv_iload_n hx hb d_Gr_hasCycle_11 rfl (lv_at hl 4 rfl) ?_
  refine lv_iload_n hx hb d_Gr_hasCycle_12 rfl (lv_at hl 2 rfl) ?_
  have hPc := hP.sub (ws' := [(gr, .inr (2, [.ref gc, .ref gf, .ref gp, .ref gb, .ref gl, .int 0]))]) [0] rfl
  have hDc := hD.sub (ws' := [(gr, .inr (2, [.ref gc, .ref gf, .ref gp, .ref gb, .ref gl, .int 0]))]) [0] (by decide) rfl
  have hKc := hK.sub (tys' := []) [] rfl
  refine xgi (wsC := [(gr, .inr (2, [.ref gc, .ref gf, .ref gp, .ref gb, .ref gl, .int 0]))]) (wr := []) (va_runV (As := [.int 0, .int 0]) (rest := []) ⟨hx, hb, hml, hown, hts⟩ (c_Gr_nextToLookAt l  D gr gc gf gp gb gl 0 0 _ ) ⟨(callB_of 2 hts (x_good k_Gr_nextToLookAt) rfl rfl rfl (hts _ (List.mem_cons_of_mem _ tw_3)) (hts _ (List.mem_cons_of_mem _ tw_477)) (by decide +kernel) ⟨Nat.le_of_ble_eq_true rfl, Nat.le_of_ble_eq_true rfl⟩), (hts _ (List.mem_cons_of_mem _ tw_479)), (hts _ (List.mem_cons_of_mem _ (x_sel 27 rfl)))⟩ (xP_V (va_recv (ci := 2) (q0 := 0) hK hP rfl rfl) hPc hKc hDc hAm hTh hAs hS) rfl rfl hl.1 rfl (lv_room (Nat.le_of_ble_eq_true rfl)) d_Gr_hasCycle_13 ⟨Nat.le_of_ble_eq_true rfl, Nat.le_of_ble_eq_true rfl⟩) hP hD hK hS hA [0] [] rfl rfl (by decide) (by decide) (fun r10 _ H locs er10 hP hD hK hS => ?_)
  have er10 : r10 = (-1) := er10
  subst er10
  have hK : va_K D cl [] s := hK
  have hP : va_P D cl [(gr, .inr (2, [.ref gc, .ref gf, .ref gp, .ref gb, .ref gl, .int 0]))] H := hP
  have hD : va_D A [(gr, .inr (2, [.ref gc, .ref gf, .ref gp, .ref gb, .ref gl, .int 0]))] := hD
  refine lv_istore hx hb d_Gr_hasCycle_16 hl (by decide) rfl (fun ls hl => ?_)
  have hl : lv_has ls 5 [(4, .int (-1)), (3, .int 9), (2, .int 0), (0, .ref gr), (1, .int 0)] := hl
  refine lv_iload hx hb d_Gr_hasCycle_18 (lv_at hl 0 rfl) ?_
  refine lv_iconst (v := (-1)) hx hb d_Gr_hasCycle_20 (by decide) ?_
  refine lv_icmp_eq (tgt := 31) hx hb d_Gr_hasCycle_21 (by decide) (fun b21 => ?_) (fun b21 => absurd b21 (by decide))
  refine lv_iinc (k := 1) (v := 10) hx hb d_Gr_hasCycle_31 hl rfl (by decide) (by decide) rfl (fun ls hl => ?_)
  have hl : lv_has ls 5 [(3, .int 10), (4, .int (-1)), (2, .int 0), (0, .ref gr), (1, .int 0)] := hl
  refine lv_goto (tgt := 4) hx hb d_Gr_hasCycle_34 (by decide) ?_
  refine lv_iload_n hx hb d_Gr_hasCycle_4 rfl (lv_at hl 0 rfl) ?_
  refine lv_bipush (v := 12) hx hb d_Gr_hasCycle_5 (by decide) ?_
  refine lv_icmp_ge (tgt := 37) hx hb d_Gr_hasCycle_7 (by decide) (fun b7 => absurd b7 (by decide)) (fun b7 => ?_)
  refine lv_aload_n hx hb d_Gr_hasCycle_10 rfl (lv_at hl 3 rfl) ?_
  refine lv_iload_n hx hb d_Gr_hasCycle_11 rfl (lv_at hl 4 rfl) ?_
  refine lv_iload_n hx hb d_Gr_hasCycle_12 rfl (lv_at hl 2 rfl) ?_
  have hPc := hP.sub (ws' := [(gr, .inr (2, [.ref gc, .ref gf, .ref gp, .ref gb, .ref gl, .int 0]))]) [0] rfl
  have hDc := hD.sub (ws' := [(gr, .inr (2, [.ref gc, .ref gf, .ref gp, .ref gb, .ref gl, .int 0]))]) [0] (by decide) rfl
  have hKc := hK.sub (tys' := []) [] rfl
  refine xgi (wsC := [(gr, .inr (2, [.ref gc, .ref gf, .ref gp, .ref gb, .ref gl, .int 0]))]) (wr := []) (va_runV (As := [.int 0, .int 0]) (rest := []) ⟨hx, hb, hml, hown, hts⟩ (c_Gr_nextToLookAt l  D gr gc gf gp gb gl 0 0 _ ) ⟨(callB_of 2 hts (x_good k_Gr_nextToLookAt) rfl rfl rfl (hts _ (List.mem_cons_of_mem _ tw_3)) (hts _ (List.mem_cons_of_mem _ tw_477)) (by decide +kernel) ⟨Nat.le_of_ble_eq_true rfl, Nat.le_of_ble_eq_true rfl⟩), (hts _ (List.mem_cons_of_mem _ tw_479)), (hts _ (List.mem_cons_of_mem _ (x_sel 27 rfl)))⟩ (xP_V (va_recv (ci := 2) (q0 := 0) hK hP rfl rfl) hPc hKc hDc hAm hTh hAs hS) rfl rfl hl.1 rfl (lv_room (Nat.le_of_ble_eq_true rfl)) d_Gr_hasCycle_13 ⟨Nat.le_of_ble_eq_true rfl, Nat.le_of_ble_eq_true rfl⟩) hP hD hK hS hA [0] [] rfl rfl (by decide) (by decide) (fun r11 _ H locs er11 hP hD hK hS => ?_)
  have er11 : r11 = (-1) := er11
  subst er11
  have hK : va_K D cl [] s := hK
  have hP : va_P D cl [(gr, .inr (2, [.ref gc, .ref gf, .ref gp, .ref gb, .ref gl, .int 0]))] H := hP
  have hD : va_D A [(gr, .inr (2, [.ref gc, .ref gf, .ref gp, .ref gb, .ref gl, .int 0]))] := hD
  refine lv_istore hx hb d_Gr_hasCycle_16 hl (by decide) rfl (fun ls hl => ?_)
  have hl : lv_has ls 5 [(4, .int (-1)), (3, .int 10), (2, .int 0), (0, .ref gr), (1, .int 0)] := hl
  refine lv_iload hx hb d_Gr_hasCycle_18 (lv_at hl 0 rfl) ?_
  refine lv_iconst (v := (-1)) hx hb d_Gr_hasCycle_20 (by decide) ?_
  refine lv_icmp_eq (tgt := 31) hx hb d_Gr_hasCycle_21 (by decide) (fun b21 => ?_) (fun b21 => absurd b21 (by decide))
  refine lv_iinc (k := 1) (v := 11) hx hb d_Gr_hasCycle_31 hl rfl (by decide) (by decide) rfl (fun ls hl => ?_)
  have hl : lv_has ls 5 [(3, .int 11), (4, .int (-1)), (2, .int 0), (0, .ref gr), (1, .int 0)] := hl
  refine lv_goto (tgt := 4) hx hb d_Gr_hasCycle_34 (by decide) ?_
  refine lv_iload_n hx hb d_Gr_hasCycle_4 rfl (lv_at hl 0 rfl) ?_
  refine lv_bipush (v := 12) hx hb d_Gr_hasCycle_5 (by decide) ?_
  refine lv_icmp_ge (tgt := 37) hx hb d_Gr_hasCycle_7 (by decide) (fun b7 => absurd b7 (by decide)) (fun b7 => ?_)
  refine lv_aload_n hx hb d_Gr_hasCycle_10 rfl (lv_at hl 3 rfl) ?_
  refine lv_iload_n hx hb d_Gr_hasCycle_11 rfl (lv_at hl 4 rfl) ?_
  refine lv_iload_n hx hb d_Gr_hasCycle_12 rfl (lv_at hl 2 rfl) ?_
  have hPc := hP.sub (ws' := [(gr, .inr (2, [.ref gc, .ref gf, .ref gp, .ref gb, .ref gl, .int 0]))]) [0] rfl
  have hDc := hD.sub (ws' := [(gr, .inr (2, [.ref gc, .ref gf, .ref gp, .ref gb, .ref gl, .int 0]))]) [0] (by decide) rfl
  have hKc := hK.sub (tys' := []) [] rfl
  refine xgi (wsC := [(gr, .inr (2, [.ref gc, .ref gf, .ref gp, .ref gb, .ref gl, .int 0]))]) (wr := []) (va_runV (As := [.int 0, .int 0]) (rest := []) ⟨hx, hb, hml, hown, hts⟩ (c_Gr_nextToLookAt l  D gr gc gf gp gb gl 0 0 _ ) ⟨(callB_of 2 hts (x_good k_Gr_nextToLookAt) rfl rfl rfl (hts _ (List.mem_cons_of_mem _ tw_3)) (hts _ (List.mem_cons_of_mem _ tw_477)) (by decide +kernel) ⟨Nat.le_of_ble_eq_true rfl, Nat.le_of_ble_eq_true rfl⟩), (hts _ (List.mem_cons_of_mem _ tw_479)), (hts _ (List.mem_cons_of_mem _ (x_sel 27 rfl)))⟩ (xP_V (va_recv (ci := 2) (q0 := 0) hK hP rfl rfl) hPc hKc hDc hAm hTh hAs hS) rfl rfl hl.1 rfl (lv_room (Nat.le_of_ble_eq_true rfl)) d_Gr_hasCycle_13 ⟨Nat.le_of_ble_eq_true rfl, Nat.le_of_ble_eq_true rfl⟩) hP hD hK hS hA [0] [] rfl rfl (by decide) (by decide) (fun r12 _ H locs er12 hP hD hK hS => ?_)
  have er12 : r12 = (-1) := er12
  subst er12
  have hK : va_K D cl [] s := hK
  have hP : va_P D cl [(gr, .inr (2, [.ref gc, .ref gf, .ref gp, .ref gb, .ref gl, .int 0]))] H := hP
  have hD : va_D A [(gr, .inr (2, [.ref gc, .ref gf, .ref gp, .ref gb, .ref gl, .int 0]))] := hD
  refine lv_istore hx hb d_Gr_hasCycle_16 hl (by decide) rfl (fun ls hl => ?_)
  have hl : lv_has ls 5 [(4, .int (-1)), (3, .int 11), (2, .int 0), (0, .ref gr), (1, .int 0)] := hl
  refine lv_iload hx hb d_Gr_hasCycle_18 (lv_at hl 0 rfl) ?_
  refine lv_iconst (v := (-1)) hx hb d_Gr_hasCycle_20 (by decide) ?_
  refine lv_icmp_eq (tgt := 31) hx hb d_Gr_hasCycle_21 (by decide) (fun b21 => ?_) (fun b21 => absurd b21 (by decide))
  refine lv_iinc (k := 1) (v := 12) hx hb d_Gr_hasCycle_31 hl rfl (by decide) (by decide) rfl (fun ls hl => ?_)
  have hl : lv_has ls 5 [(3, .int 12), (4, .int (-1)), (2, .int 0), (0, .ref gr), (1, .int 0)] := hl
  refine lv_goto (tgt := 4) hx hb d_Gr_hasCycle_34 (by decide) ?_
  refine lv_iload_n hx hb d_Gr_hasCycle_4 rfl (lv_at hl 0 rfl) ?_
  refine lv_bipush (v := 12) hx hb d_Gr_hasCycle_5 (by decide) ?_
  refine lv_icmp_ge (tgt := 37) hx hb d_Gr_hasCycle_7 (by decide) (fun b7 => ?_) (fun b7 => absurd b7 (by decide))
  refine lv_iload_n hx hb d_Gr_hasCycle_37 rfl (lv_at hl 2 rfl) ?_
  refine lv_iload_n hx hb d_Gr_hasCycle_38 rfl (lv_at hl 4 rfl) ?_
  refine lv_icmp_eq (tgt := 46) hx hb d_Gr_hasCycle_39 (by decide) (fun b39 => ?_) (fun b39 => absurd b39 (by decide))
  refine lv_iconst (v := 0) hx hb d_Gr_hasCycle_46 (by decide) ?_
  exact xrz () B d_Gr_hasCycle_47 (rfl) (rfl) (hP.sub (ws' := [(gr, .inr (2, [.ref gc, .ref gf, .ref gp, .ref gb, .ref gl, .int 0]))]) [0] rfl) (hK.sub (tys' := []) [] rfl) (hD.sub (ws' := [(gr, .inr (2, [.ref gc, .ref gf, .ref gp, .ref gb, .ref gl, .int 0]))]) [0] (by decide) rfl) hS (Nat.le_of_ble_eq_true rfl) (Nat.le_of_ble_eq_true rfl)
theorem d_Di_put_0 : decode b_Di_put 0 = .ok (.aload_n 0, 1) := by decide +kernel
theorem d_Di_put_1 : decode b_Di_put 1 = .ok (.dup, 1) := by decide +kernel
theorem d_Di_put_2 : decode b_Di_put 2 = .ok (.getfield 18, 3) := by decide +kernel
theorem d_Di_put_5 : decode b_Di_put 5 = .ok (.iconst (1), 1) := by decide +kernel
theorem d_Di_put_6 : decode b_Di_put 6 = .ok (.iadd, 1) := by decide +kernel
theorem d_Di_put_7 : decode b_Di_put 7 = .ok (.putfield 18, 3) := by decide +kernel
theorem d_Di_put_10 : decode b_Di_put 10 = .ok (.aload_n 0, 1) := by decide +kernel
theorem d_Di_put_11 : decode b_Di_put 11 = .ok (.getfield 9, 3) := by decide +kernel
theorem d_Di_put_14 : decode b_Di_put 14 = .ok (.iload_n 1, 1) := by decide +kernel
theorem d_Di_put_15 : decode b_Di_put 15 = .ok (.iload_n 2, 1) := by decide +kernel
theorem d_Di_put_16 : decode b_Di_put 16 = .ok (.iastore, 1) := by decide +kernel
theorem d_Di_put_17 : decode b_Di_put 17 = .ok (.aload_n 0, 1) := by decide +kernel
theorem d_Di_put_18 : decode b_Di_put 18 = .ok (.getfield 15, 3) := by decide +kernel
theorem d_Di_put_21 : decode b_Di_put 21 = .ok (.iload_n 1, 1) := by decide +kernel
theorem d_Di_put_22 : decode b_Di_put 22 = .ok (.aload_n 0, 1) := by decide +kernel
theorem d_Di_put_23 : decode b_Di_put 23 = .ok (.getfield 18, 3) := by decide +kernel
theorem d_Di_put_26 : decode b_Di_put 26 = .ok (.iastore, 1) := by decide +kernel
theorem d_Di_put_27 : decode b_Di_put 27 = .ok (.aload_n 0, 1) := by decide +kernel
theorem d_Di_put_28 : decode b_Di_put 28 = .ok (.dup, 1) := by decide +kernel
theorem d_Di_put_29 : decode b_Di_put 29 = .ok (.getfield 22, 3) := by decide +kernel
theorem d_Di_put_32 : decode b_Di_put 32 = .ok (.iconst (1), 1) := by decide +kernel
theorem d_Di_put_33 : decode b_Di_put 33 = .ok (.iload_n 1, 1) := by decide +kernel
theorem d_Di_put_34 : decode b_Di_put 34 = .ok (.ishl, 1) := by decide +kernel
theorem d_Di_put_35 : decode b_Di_put 35 = .ok (.ior, 1) := by decide +kernel
theorem d_Di_put_36 : decode b_Di_put 36 = .ok (.putfield 22, 3) := by decide +kernel
theorem d_Di_put_39 : decode b_Di_put 39 = .ok (.return_, 1) := by decide +kernel
set_option maxRecDepth 20000 in
set_option maxHeartbeats 4000000 in
theorem c_Di_put (l : Launch) (D : va_G) (di : Nat) (ct : Nat) (ti : Nat) (cI : ClassId) (f : Int32) (v : Int32) (sz : Nat) (h : xIn f 0 23 = 1) : xMv l y_Di_put w_Di_put { frames := 0, cells := 0, slots := 0, locals := 0 } D cl [.ref di, .int f, .int v] sz [(cI, .int)] [(di, .inr (1, [.ref ct, .ref ti, .int 0, .int 0])), (ct, .inl (cI, 24, .inl (fun _ => 0))), (ti, .inl (cI, 24, .inl (fun _ => 0)))] (fun (_ : Unit) => True) (fun _ => []) (fun _ => []) := by
  refine xMv_of (by decide +kernel) rfl (Nat.le_of_ble_eq_true rfl) ?_
  intro p e s m args below meth c ls A B hAe hA hsz hP hK hD hS hAm hTh hAs hl
  obtain ⟨⟨hx, hb, hml, hown, hts⟩, hret, hlk, hnm, hemp⟩ := id B
  have hl : lv_has ls 3 [(0, .ref di), (1, .int f), (2, .int v)] := hl
  refine lv_aload_n hx hb d_Di_put_0 rfl (lv_at hl 0 rfl) ?_
  refine lv_dup hx hb d_Di_put_1 rfl ?_
  refine va_get (D := D) (ci := 1) (v := .int 0) (C := R_Di) (T := F_Di) (N := 4) hx hb hts (fun w h => List.mem_cons_of_mem _ (u_Di w h)) hown hK hP 0 rfl rfl 2 (by decide) (hts _ (List.mem_cons_of_mem _ tw_35)) (fun _ h9 => h9) rfl d_Di_put_2 ?_
  refine lv_iconst (v := 1) hx hb d_Di_put_5 (by decide) ?_
  refine lv_iadd hx hb d_Di_put_6 ?_
  refine xnum (v := 1) (by decide) ?_
  refine va_put (D := D) (ci := 1) (v := .int 1) (ty := .int) (C := R_Di) (T := F_Di) (N := 4) hx hb hts (fun w h => List.mem_cons_of_mem _ (u_Di w h)) t_Di o_Di n_Di hown hK hP hD hS 0 rfl rfl 2 (by decide) (hts _ (List.mem_cons_of_mem _ tw_35)) (fun _ h9 => h9) rfl (by decide +kernel) rfl rfl (Nat.le_of_ble_eq_true rfl) d_Di_put_7 (fun H locs hP hD hS => ?_)
  have hP : va_P D cl [(di, .inr (1, [.ref ct, .ref ti, .int 1, .int 0])), (ct, .inl (cI, 24, .inl (fun _ => 0))), (ti, .inl (cI, 24, .inl (fun _ => 0)))] H := hP
  have hD : va_D A [(di, .inr (1, [.ref ct, .ref ti, .int 1, .int 0])), (ct, .inl (cI, 24, .inl (fun _ => 0))), (ti, .inl (cI, 24, .inl (fun _ => 0)))] := hD
  refine lv_aload_n hx hb d_Di_put_10 rfl (lv_at hl 0 rfl) ?_
  refine va_get (D := D) (ci := 1) (v := .ref ct) (C := R_Di) (T := F_Di) (N := 4) hx hb hts (fun w h => List.mem_cons_of_mem _ (u_Di w h)) hown hK hP 0 rfl rfl 0 (by decide) (hts _ (List.mem_cons_of_mem _ tw_31)) (fun _ h9 => h9) rfl d_Di_put_11 ?_
  refine lv_iload_n hx hb d_Di_put_14 rfl (lv_at hl 1 rfl) ?_
  refine lv_iload_n hx hb d_Di_put_15 rfl (lv_at hl 2 rfl) ?_
  refine va_iast hx hb hK hP hD hS 1 0 rfl rfl (xIn_in2 h (by decide) (by decide)) d_Di_put_16 (fun H locs hP hD hS => ?_)
  have hP : va_P D cl [(di, .inr (1, [.ref ct, .ref ti, .int 1, .int 0])), (ct, .inl (cI, 24, .inl (upd (fun _ => 0) f.toNatClampNeg v))), (ti, .inl (cI, 24, .inl (fun _ => 0)))] H := hP
  have hD : va_D A [(di, .inr (1, [.ref ct, .ref ti, .int 1, .int 0])), (ct, .inl (cI, 24, .inl (upd (fun _ => 0) f.toNatClampNeg v))), (ti, .inl (cI, 24, .inl (fun _ => 0)))] := hD
  refine lv_aload_n hx hb d_Di_put_17 rfl (lv_at hl 0 rfl) ?_
  refine va_get (D := D) (ci := 1) (v := .ref ti) (C := R_Di) (T := F_Di) (N := 4) hx hb hts (fun w h => List.mem_cons_of_mem _ (u_Di w h)) hown hK hP 0 rfl rfl 1 (by decide) (hts _ (List.mem_cons_of_mem _ tw_33)) (fun _ h9 => h9) rfl d_Di_put_18 ?_
  refine lv_iload_n hx hb d_Di_put_21 rfl (lv_at hl 1 rfl) ?_
  refine lv_aload_n hx hb d_Di_put_22 rfl (lv_at hl 0 rfl) ?_
  refine va_get (D := D) (ci := 1) (v := .int 1) (C := R_Di) (T := F_Di) (N := 4) hx hb hts (fun w h => List.mem_cons_of_mem _ (u_Di w h)) hown hK hP 0 rfl rfl 2 (by decide) (hts _ (List.mem_cons_of_mem _ tw_35)) (fun _ h9 => h9) rfl d_Di_put_23 ?_
  refine va_iast hx hb hK hP hD hS 2 0 rfl rfl (xIn_in2 h (by decide) (by decide)) d_Di_put_26 (fun H locs hP hD hS => ?_)
  have hP : va_P D cl [(di, .inr (1, [.ref ct, .ref ti, .int 1, .int 0])), (ct, .inl (cI, 24, .inl (upd (fun _ => 0) f.toNatClampNeg v))), (ti, .inl (cI, 24, .inl (upd (fun _ => 0) f.toNatClampNeg 1)))] H := hP
  have hD : va_D A [(di, .inr (1, [.ref ct, .ref ti, .int 1, .int 0])), (ct, .inl (cI, 24, .inl (upd (fun _ => 0) f.toNatClampNeg v))), (ti, .inl (cI, 24, .inl (upd (fun _ => 0) f.toNatClampNeg 1)))] := hD
  refine lv_aload_n hx hb d_Di_put_27 rfl (lv_at hl 0 rfl) ?_
  refine lv_dup hx hb d_Di_put_28 rfl ?_
  refine va_get (D := D) (ci := 1) (v := .int 0) (C := R_Di) (T := F_Di) (N := 4) hx hb hts (fun w h => List.mem_cons_of_mem _ (u_Di w h)) hown hK hP 0 rfl rfl 3 (by decide) (hts _ (List.mem_cons_of_mem _ tw_36)) (fun _ h9 => h9) rfl d_Di_put_29 ?_
  refine lv_iconst (v := 1) hx hb d_Di_put_32 (by decide) ?_
  refine lv_iload_n hx hb d_Di_put_33 rfl (lv_at hl 1 rfl) ?_
  refine lv_ishl hx hb d_Di_put_34 ?_
  refine lv_ior hx hb d_Di_put_35 ?_
  refine va_put (D := D) (ci := 1) (v := .int ((0 : Int32) ||| ((1 : Int32) <<< (f &&& 31)))) (ty := .int) (C := R_Di) (T := F_Di) (N := 4) hx hb hts (fun w h => List.mem_cons_of_mem _ (u_Di w h)) t_Di o_Di n_Di hown hK hP hD hS 0 rfl rfl 3 (by decide) (hts _ (List.mem_cons_of_mem _ tw_36)) (fun _ h9 => h9) rfl (by decide +kernel) rfl rfl (Nat.le_of_ble_eq_true rfl) d_Di_put_36 (fun H locs hP hD hS => ?_)
  have hP : va_P D cl [(di, .inr (1, [.ref ct, .ref ti, .int 1, .int ((0 : Int32) ||| ((1 : Int32) <<< (f &&& 31)))])), (ct, .inl (cI, 24, .inl (upd (fun _ => 0) f.toNatClampNeg v))), (ti, .inl (cI, 24, .inl (upd (fun _ => 0) f.toNatClampNeg 1)))] H := hP
  have hD : va_D A [(di, .inr (1, [.ref ct, .ref ti, .int 1, .int ((0 : Int32) ||| ((1 : Int32) <<< (f &&& 31)))])), (ct, .inl (cI, 24, .inl (upd (fun _ => 0) f.toNatClampNeg v))), (ti, .inl (cI, 24, .inl (upd (fun _ => 0) f.toNatClampNeg 1)))] := hD
  exact xrv () B d_Di_put_39 (trivial) (hP.sub (ws' := []) [] rfl) (hK.sub (tys' := []) [] rfl) (hD.sub (ws' := []) [] (by decide) rfl) hS (Nat.le_of_ble_eq_true rfl) (Nat.le_of_ble_eq_true rfl)
theorem d_RL_hasByte_0 : decode b_RL_hasByte 0 = .ok (.iload_n 1, 1) := by decide +kernel
theorem d_RL_hasByte_1 : decode b_RL_hasByte 1 = .ok (.iconst (0), 1) := by decide +kernel
theorem d_RL_hasByte_2 : decode b_RL_hasByte 2 = .ok (.aload_n 0, 1) := by decide +kernel
theorem d_RL_hasByte_3 : decode b_RL_hasByte 3 = .ok (.getfield 27, 3) := by decide +kernel
theorem d_RL_hasByte_6 : decode b_RL_hasByte 6 = .ok (.iconst (1), 1) := by decide +kernel
theorem d_RL_hasByte_7 : decode b_RL_hasByte 7 = .ok (.isub, 1) := by decide +kernel
theorem d_RL_hasByte_8 : decode b_RL_hasByte 8 = .ok (.invokestatic 31, 3) := by decide +kernel
theorem d_RL_hasByte_11 : decode b_RL_hasByte 11 = .ok (.ireturn, 1) := by decide +kernel
set_option maxRecDepth 20000 in
set_option maxHeartbeats 4000000 in
theorem c_RL_hasByte (l : Launch) (D : va_G) (rl : Nat) (rb : Nat) (rc : Nat) (rt : Nat) (x : Int32) (sz : Nat)  : xMi l y_RL_hasByte w_RL_hasByte { frames := 1, cells := 0, slots := 0, locals := 22 } D cl [.ref rl, .int x] sz [] [(rl, .inr (4, [.ref rb, .ref rc, .ref rt, .int 0]))] (fun (r : Int32) (_ : Unit) => r = 0) (fun _ => [(rl, .inr (4, [.ref rb, .ref rc, .ref rt, .int 0]))]) (fun _ => []) := by
  refine xMi_of (by decide +kernel) rfl (Nat.le_of_ble_eq_true rfl) ?_
  intro p e s m args below meth c ls A B hAe hA hsz hP hK hD hS hAm hTh hAs hl
  obtain ⟨⟨hx, hb, hml, hown, hts⟩, hret, hlk, hnm, hemp⟩ := id B
  have hl : lv_has ls 2 [(0, .ref rl), (1, .int x)] := hl
  refine lv_iload_n hx hb d_RL_hasByte_0 rfl (lv_at hl 1 rfl) ?_
  refine lv_iconst (v := 0) hx hb d_RL_hasByte_1 (by decide) ?_
  refine lv_aload_n hx hb d_RL_hasByte_2 rfl (lv_at hl 0 rfl) ?_
  refine va_get (D := D) (ci := 4) (v := .int 0) (C := R_RL) (T := F_RL) (N := 4) hx hb hts (fun w h => List.mem_cons_of_mem _ (u_RL w h)) hown hK hP 0 rfl rfl 3 (by decide) (hts _ (List.mem_cons_of_mem _ tw_111)) (fun _ h9 => h9) rfl d_RL_hasByte_3 ?_
  refine lv_iconst (v := 1) hx hb d_RL_hasByte_6 (by decide) ?_
  refine lv_isub hx hb d_RL_hasByte_7 ?_
  refine xnum (v := (-1)) (by decide) ?_
  have hPc := hP.sub (ws' := []) [] rfl
  have hDc := hD.sub (ws' := []) [] (by decide) rfl
  have hKc := hK.sub (tys' := []) [] rfl
  refine xgi (wsC := []) (wr := [(rl, .inr (4, [.ref rb, .ref rc, .ref rt, .int 0]))]) (va_runSN (As := [.int x, .int 0, .int (-1)]) (rest := []) ⟨hx, hb, hml, hown, hts⟩ (c_FB_isIn l  D x 0 (-1) _ ) ⟨(va_cnB 3 hts (x_good k_FB_isIn) rfl rfl rfl (hAm.1 _ (List.mem_of_getElem? (i := 28) rfl)) (hts _ (List.mem_cons_of_mem _ tw_1)) (by decide +kernel) ⟨Nat.le_of_ble_eq_true rfl, Nat.le_of_ble_eq_true rfl⟩), (hts _ (List.mem_cons_of_mem _ tw_226)), trivial⟩ (xP_S hPc hKc hDc hAm hTh hAs hS) rfl rfl hl.1 rfl (lv_room (Nat.le_of_ble_eq_true rfl)) d_RL_hasByte_8 ⟨Nat.le_of_ble_eq_true rfl, Nat.le_of_ble_eq_true rfl⟩) hP hD hK hS hA [] [0] rfl rfl (by decide) (by decide) (fun r1 _ H locs er1 hP hD hK hS => ?_)
  have er1 : r1 = xIn x 0 (-1) := er1
  subst er1
  have hK : va_K D cl [] s := hK
  have hP : va_P D cl [(rl, .inr (4, [.ref rb, .ref rc, .ref rt, .int 0]))] H := hP
  have hD : va_D A [(rl, .inr (4, [.ref rb, .ref rc, .ref rt, .int 0]))] := hD
  exact xrz () B d_RL_hasByte_11 (xIn_nar _ _ _) (xIn_none x) (hP.sub (ws' := [(rl, .inr (4, [.ref rb, .ref rc, .ref rt, .int 0]))]) [0] rfl) (hK.sub (tys' := []) [] rfl) (hD.sub (ws' := [(rl, .inr (4, [.ref rb, .ref rc, .ref rt, .int 0]))]) [0] (by decide) rfl) hS (Nat.le_of_ble_eq_true rfl) (Nat.le_of_ble_eq_true rfl)
theorem d_RL_hasRecord_0 : decode b_RL_hasRecord 0 = .ok (.aload_n 0, 1) := by decide +kernel
theorem d_RL_hasRecord_1 : decode b_RL_hasRecord 1 = .ok (.getfield 15, 3) := by decide +kernel
theorem d_RL_hasRecord_4 : decode b_RL_hasRecord 4 = .ok (.iload_n 1, 1) := by decide +kernel
theorem d_RL_hasRecord_5 : decode b_RL_hasRecord 5 = .ok (.iaload, 1) := by decide +kernel
theorem d_RL_hasRecord_6 : decode b_RL_hasRecord 6 = .ok (.iconst (-1), 1) := by decide +kernel
theorem d_RL_hasRecord_7 : decode b_RL_hasRecord 7 = .ok (.if_icmp .eq (7), 3) := by decide +kernel
theorem d_RL_hasRecord_14 : decode b_RL_hasRecord 14 = .ok (.iconst (0), 1) := by decide +kernel
theorem d_RL_hasRecord_15 : decode b_RL_hasRecord 15 = .ok (.ireturn, 1) := by decide +kernel
set_option maxRecDepth 20000 in
set_option maxHeartbeats 4000000 in
theorem c_RL_hasRecord (l : Launch) (D : va_G) (rl : Nat) (rc : Nat) (rb : Nat) (rt : Nat) (cI : ClassId) (f : Int32) (sz : Nat) (h : xIn f 0 23 = 1) : xMi l y_RL_hasRecord w_RL_hasRecord { frames := 0, cells := 0, slots := 0, locals := 0 } D cl [.ref rl, .int f] sz [(cI, .int)] [(rl, .inr (4, [.ref rb, .ref rc, .ref rt, .int 0])), (rc, .inl (cI, 24, .inl (fun _ => (-1))))] (fun (r : Int32) (_ : Unit) => r = 0) (fun _ => [(rl, .inr (4, [.ref rb, .ref rc, .ref rt, .int 0])), (rc, .inl (cI, 24, .inl (fun _ => (-1))))]) (fun _ => []) := by
  refine xMi_of (by decide +kernel) rfl (Nat.le_of_ble_eq_true rfl) ?_
  intro p e s m args below meth c ls A B hAe hA hsz hP hK hD hS hAm hTh hAs hl
  obtain ⟨⟨hx, hb, hml, hown, hts⟩, hret, hlk, hnm, hemp⟩ := id B
  have hl : lv_has ls 2 [(0, .ref rl), (1, .int f)] := hl
  refine lv_aload_n hx hb d_RL_hasRecord_0 rfl (lv_at hl 0 rfl) ?_
  refine va_get (D := D) (ci := 4) (v := .ref rc) (C := R_RL) (T := F_RL) (N := 4) hx hb hts (fun w h => List.mem_cons_of_mem _ (u_RL w h)) hown hK hP 0 rfl rfl 1 (by decide) (hts _ (List.mem_cons_of_mem _ tw_107)) (fun _ h9 => h9) rfl d_RL_hasRecord_1 ?_
  refine lv_iload_n hx hb d_RL_hasRecord_4 rfl (lv_at hl 1 rfl) ?_
  refine va_iald hx hb hK hP 1 0 rfl rfl (xIn_in2 h (by decide) (by decide)) d_RL_hasRecord_5 ?_
  refine xnum (v := (-1)) rfl ?_
  refine lv_iconst (v := (-1)) hx hb d_RL_hasRecord_6 (by decide) ?_
  refine lv_icmp_eq (tgt := 14) hx hb d_RL_hasRecord_7 (by decide) (fun b7 => ?_) (fun b7 => absurd b7 (by decide))
  refine lv_iconst (v := 0) hx hb d_RL_hasRecord_14 (by decide) ?_
  exact xrz () B d_RL_hasRecord_15 (rfl) (rfl) (hP.sub (ws' := [(rl, .inr (4, [.ref rb, .ref rc, .ref rt, .int 0])), (rc, .inl (cI, 24, .inl (fun _ => (-1))))]) [0, 1] rfl) (hK.sub (tys' := []) [] rfl) (hD.sub (ws' := [(rl, .inr (4, [.ref rb, .ref rc, .ref rt, .int 0])), (rc, .inl (cI, 24, .inl (fun _ => (-1))))]) [0, 1] (by decide) rfl) hS (Nat.le_of_ble_eq_true rfl) (Nat.le_of_ble_eq_true rfl)
theorem d_FB_isMissing_0 : decode b_FB_isMissing 0 = .ok (.iload_n 1, 1) := by decide +kernel
theorem d_FB_isMissing_1 : decode b_FB_isMissing 1 = .ok (.aload_n 0, 1) := by decide +kernel
theorem d_FB_isMissing_2 : decode b_FB_isMissing 2 = .ok (.getfield 19, 3) := by decide +kernel
theorem d_FB_isMissing_5 : decode b_FB_isMissing 5 = .ok (.invokevirtual 112, 3) := by decide +kernel
theorem d_FB_isMissing_8 : decode b_FB_isMissing 8 = .ok (.iconst (-1), 1) := by decide +kernel
theorem d_FB_isMissing_9 : decode b_FB_isMissing 9 = .ok (.ixor, 1) := by decide +kernel
theorem d_FB_isMissing_10 : decode b_FB_isMissing 10 = .ok (.iand, 1) := by decide +kernel
theorem d_FB_isMissing_11 : decode b_FB_isMissing 11 = .ok (.aload_n 0, 1) := by decide +kernel
theorem d_FB_isMissing_12 : decode b_FB_isMissing 12 = .ok (.getfield 12, 3) := by decide +kernel
theorem d_FB_isMissing_15 : decode b_FB_isMissing 15 = .ok (.getfield 146, 3) := by decide +kernel
theorem d_FB_isMissing_18 : decode b_FB_isMissing 18 = .ok (.iconst (-1), 1) := by decide +kernel
theorem d_FB_isMissing_19 : decode b_FB_isMissing 19 = .ok (.ixor, 1) := by decide +kernel
theorem d_FB_isMissing_20 : decode b_FB_isMissing 20 = .ok (.iand, 1) := by decide +kernel
theorem d_FB_isMissing_21 : decode b_FB_isMissing 21 = .ok (.ifCond .eq (7), 3) := by decide +kernel
theorem d_FB_isMissing_24 : decode b_FB_isMissing 24 = .ok (.iconst (1), 1) := by decide +kernel
theorem d_FB_isMissing_25 : decode b_FB_isMissing 25 = .ok (.goto (4), 3) := by decide +kernel
theorem d_FB_isMissing_29 : decode b_FB_isMissing 29 = .ok (.ireturn, 1) := by decide +kernel
set_option maxRecDepth 20000 in
set_option maxHeartbeats 4000000 in
theorem c_FB_isMissing (l : Launch) (D : va_G) (fb : Nat) (gr : Nat) (di : Nat) (re : Nat) (rl : Nat) (bu : Nat) (de : Nat) (gc : Nat) (gf : Nat) (gp : Nat) (gb : Nat) (gl : Nat) (ct : Nat) (ti : Nat) (x : Int32) (sz : Nat) (h : ¬ x = 0) : xMi l y_FB_isMissing w_FB_isMissing { frames := 1, cells := 0, slots := 0, locals := 30 } D cl [.ref fb, .int x] sz [] [(fb, .inr (5, [.ref di, .ref gr, .ref re, .ref rl, .ref bu, .ref de])), (gr, .inr (2, [.ref gc, .ref gf, .ref gp, .ref gb, .ref gl, .int 0])), (di, .inr (1, [.ref ct, .ref ti, .int 0, .int 0]))] (fun (r : Int32) (_ : Unit) => r = 1) (fun _ => [(fb, .inr (5, [.ref di, .ref gr, .ref re, .ref rl, .ref bu, .ref de])), (gr, .inr (2, [.ref gc, .ref gf, .ref gp, .ref gb, .ref gl, .int 0])), (di, .inr (1, [.ref ct, .ref ti, .int 0, .int 0]))]) (fun _ => []) := by
  refine xMi_of (by decide +kernel) rfl (Nat.le_of_ble_eq_true rfl) ?_
  intro p e s m args below meth c ls A B hAe hA hsz hP hK hD hS hAm hTh hAs hl
  obtain ⟨⟨hx, hb, hml, hown, hts⟩, hret, hlk, hnm, hemp⟩ := id B
  have hl : lv_has ls 2 [(0, .ref fb), (1, .int x)] := hl
  refine lv_iload_n hx hb d_FB_isMissing_0 rfl (lv_at hl 1 rfl) ?_
  refine lv_aload_n hx hb d_FB_isMissing_1 rfl (lv_at hl 0 rfl) ?_
  refine va_get (D := D) (ci := 5) (v := .ref gr) (C := R_FB) (T := F_FB) (N := 6) hx hb hts (fun w h => List.mem_cons_of_mem _ (u_FB w h)) hown hK hP 0 rfl rfl 1 (by decide) (hts _ (List.mem_cons_of_mem _ tw_147)) (fun _ h9 => h9) rfl d_FB_isMissing_2 ?_
  have hPc := hP.sub (ws' := [(gr, .inr (2, [.ref gc, .ref gf, .ref gp, .ref gb, .ref gl, .int 0]))]) [1] rfl
  have hDc := hD.sub (ws' := [(gr, .inr (2, [.ref gc, .ref gf, .ref gp, .ref gb, .ref gl, .int 0]))]) [1] (by decide) rfl
  have hKc := hK.sub (tys' := []) [] rfl
  refine xgi (wsC := [(gr, .inr (2, [.ref gc, .ref gf, .ref gp, .ref gb, .ref gl, .int 0]))]) (wr := [(fb, .inr (5, [.ref di, .ref gr, .ref re, .ref rl, .ref bu, .ref de])), (di, .inr (1, [.ref ct, .ref ti, .int 0, .int 0]))]) (va_runVN (As := []) (rest := [.int x]) ⟨hx, hb, hml, hown, hts⟩ (c_Gr_made l  D gr gc gf gp gb gl _ ) ⟨(va_cnB 0 hts (x_good k_Gr_made) rfl rfl rfl (hAm.1 _ (List.mem_of_getElem? (i := 40) rfl)) (hts _ (List.mem_cons_of_mem _ tw_3)) (by decide +kernel) ⟨Nat.le_of_ble_eq_true rfl, Nat.le_of_ble_eq_true rfl⟩), (hts _ (List.mem_cons_of_mem _ tw_360)), (hts _ (List.mem_cons_of_mem _ (x_sel 16 rfl)))⟩ (xP_V (va_recv (ci := 2) (q0 := 1) hK hP rfl rfl) hPc hKc hDc hAm hTh hAs hS) rfl rfl hl.1 rfl (lv_room (Nat.le_of_ble_eq_true rfl)) d_FB_isMissing_5 ⟨Nat.le_of_ble_eq_true rfl, Nat.le_of_ble_eq_true rfl⟩) hP hD hK hS hA [1] [0, 2] rfl rfl (by decide) (by decide) (fun r1 _ H locs er1 hP hD hK hS => ?_)
  have er1 : r1 = 0 := er1
  subst er1
  have hK : va_K D cl [] s := hK
  have hP : va_P D cl [(fb, .inr (5, [.ref di, .ref gr, .ref re, .ref rl, .ref bu, .ref de])), (di, .inr (1, [.ref ct, .ref ti, .int 0, .int 0])), (gr, .inr (2, [.ref gc, .ref gf, .ref gp, .ref gb, .ref gl, .int 0]))] H := hP
  have hD : va_D A [(fb, .inr (5, [.ref di, .ref gr, .ref re, .ref rl, .ref bu, .ref de])), (di, .inr (1, [.ref ct, .ref ti, .int 0, .int 0])), (gr, .inr (2, [.ref gc, .ref gf, .ref gp, .ref gb, .ref gl, .int 0]))] := hD
  refine lv_iconst (v := (-1)) hx hb d_FB_isMissing_8 (by decide) ?_
  refine lv_ixor hx hb d_FB_isMissing_9 ?_
  refine xnum (v := (-1)) (by decide) ?_
  refine lv_iand hx hb d_FB_isMissing_10 ?_
  refine lv_aload_n hx hb d_FB_isMissing_11 rfl (lv_at hl 0 rfl) ?_
  refine va_get (D := D) (ci := 5) (v := .ref di) (C := R_FB) (T := F_FB) (N := 6) hx hb hts (fun w h => List.mem_cons_of_mem _ (u_FB w h)) hown hK hP 0 rfl rfl 0 (by decide) (hts _ (List.mem_cons_of_mem _ tw_146)) (fun _ h9 => h9) rfl d_FB_isMissing_12 ?_
  refine va_getN (D := D) (ci := 1) (v := .int 0) (C := R_Di) (T := F_Di) (N := 4) hx hb hts (fun w h => List.mem_cons_of_mem _ (u_Di w h)) hown hK hP 1 rfl rfl 3 (by decide) (va_Nw.use rfl (hAm.1 _ (List.mem_of_getElem? (i := 3) rfl))) (fun _ h9 => h9) rfl d_FB_isMissing_15 ?_
  refine lv_iconst (v := (-1)) hx hb d_FB_isMissing_18 (by decide) ?_
  refine lv_ixor hx hb d_FB_isMissing_19 ?_
  refine xnum (v := (-1)) (by decide) ?_
  refine lv_iand hx hb d_FB_isMissing_20 ?_
  refine lv_if_eq (tgt := 28) hx hb d_FB_isMissing_21 (by decide) (fun b21 => absurd ((xand1 x).symm.trans b21) h) (fun b21 => ?_)
  refine lv_iconst (v := 1) hx hb d_FB_isMissing_24 (by decide) ?_
  refine lv_goto (tgt := 29) hx hb d_FB_isMissing_25 (by decide) ?_
  exact xrz () B d_FB_isMissing_29 (rfl) (rfl) (hP.sub (ws' := [(fb, .inr (5, [.ref di, .ref gr, .ref re, .ref rl, .ref bu, .ref de])), (gr, .inr (2, [.ref gc, .ref gf, .ref gp, .ref gb, .ref gl, .int 0])), (di, .inr (1, [.ref ct, .ref ti, .int 0, .int 0]))]) [0, 2, 1] rfl) (hK.sub (tys' := []) [] rfl) (hD.sub (ws' := [(fb, .inr (5, [.ref di, .ref gr, .ref re, .ref rl, .ref bu, .ref de])), (gr, .inr (2, [.ref gc, .ref gf, .ref gp, .ref gb, .ref gl, .int 0])), (di, .inr (1, [.ref ct, .ref ti, .int 0, .int 0]))]) [0, 2, 1] (by decide) rfl) hS (Nat.le_of_ble_eq_true rfl) (Nat.le_of_ble_eq_true rfl)
end
section
theorem xIn_out {x : Int32} (h : ¬ xIn x 0 3 = 1) : x.toInt < 0 ∨ 3 < x.toInt := by
  by_cases g : 0 ≤ x ∧ x ≤ 3
  · exact absurd (if_pos g) h
  · simp only [Int32.le_iff_toInt_le] at g
    have h0 : (0 : Int32).toInt = 0 := by decide
    have h3 : (3 : Int32).toInt = 3 := by decide
    omega
theorem d_FB_edge_0 : decode b_FB_edge 0 = .ok (.iload_n 1, 1) := by decide +kernel
theorem d_FB_edge_1 : decode b_FB_edge 1 = .ok (.invokestatic 54, 3) := by decide +kernel
theorem d_FB_edge_4 : decode b_FB_edge 4 = .ok (.ifCond .eq (19), 3) := by decide +kernel
theorem d_FB_edge_7 : decode b_FB_edge 7 = .ok (.iload_n 2, 1) := by decide +kernel
theorem d_FB_edge_8 : decode b_FB_edge 8 = .ok (.invokestatic 58, 3) := by decide +kernel
theorem d_FB_edge_11 : decode b_FB_edge 11 = .ok (.ifCond .eq (12), 3) := by decide +kernel
theorem d_FB_edge_14 : decode b_FB_edge 14 = .ok (.iload_n 3, 1) := by decide +kernel
theorem d_FB_edge_15 : decode b_FB_edge 15 = .ok (.iconst (0), 1) := by decide +kernel
theorem d_FB_edge_16 : decode b_FB_edge 16 = .ok (.iconst (2), 1) := by decide +kernel
theorem d_FB_edge_17 : decode b_FB_edge 17 = .ok (.invokestatic 61, 3) := by decide +kernel
theorem d_FB_edge_20 : decode b_FB_edge 20 = .ok (.ifCond .ne (13), 3) := by decide +kernel
theorem d_FB_edge_33 : decode b_FB_edge 33 = .ok (.aload_n 0, 1) := by decide +kernel
theorem d_FB_edge_34 : decode b_FB_edge 34 = .ok (.getfield 19, 3) := by decide +kernel
theorem d_FB_edge_37 : decode b_FB_edge 37 = .ok (.getfield 72, 3) := by decide +kernel
theorem d_FB_edge_40 : decode b_FB_edge 40 = .ok (.bipush (12), 2) := by decide +kernel
theorem d_FB_edge_42 : decode b_FB_edge 42 = .ok (.if_icmp .ge (13), 3) := by decide +kernel
theorem d_FB_edge_45 : decode b_FB_edge 45 = .ok (.aload_n 0, 1) := by decide +kernel
theorem d_FB_edge_46 : decode b_FB_edge 46 = .ok (.getfield 40, 3) := by decide +kernel
theorem d_FB_edge_49 : decode b_FB_edge 49 = .ok (.invokevirtual 76, 3) := by decide +kernel
theorem d_FB_edge_52 : decode b_FB_edge 52 = .ok (.ifCond .eq (13), 3) := by decide +kernel
theorem d_FB_edge_65 : decode b_FB_edge 65 = .ok (.aload_n 0, 1) := by decide +kernel
theorem d_FB_edge_66 : decode b_FB_edge 66 = .ok (.getfield 19, 3) := by decide +kernel
theorem d_FB_edge_69 : decode b_FB_edge 69 = .ok (.iload_n 1, 1) := by decide +kernel
theorem d_FB_edge_70 : decode b_FB_edge 70 = .ok (.iload_n 2, 1) := by decide +kernel
theorem d_FB_edge_71 : decode b_FB_edge 71 = .ok (.iload_n 3, 1) := by decide +kernel
theorem d_FB_edge_72 : decode b_FB_edge 72 = .ok (.invokevirtual 85, 3) := by decide +kernel
theorem d_FB_edge_75 : decode b_FB_edge 75 = .ok (.ireturn, 1) := by decide +kernel
set_option maxRecDepth 20000 in
set_option maxHeartbeats 4000000 in
theorem c_FB_edge (l : Launch) (D : va_G) (fb : Nat) (gr : Nat) (bu : Nat) (gc : Nat) (gf : Nat) (gp : Nat) (di : Nat) (re : Nat) (rl : Nat) (de : Nat) (gb : Nat) (gl : Nat) (bs : Nat) (cI : ClassId) (x : Int32) (y : Int32) (z : Int32) (sz : Nat) (h : xokE x y z) : xMi l y_FB_edge w_FB_edge { frames := 2, cells := 0, slots := 0, locals := 60 } D cl [.ref fb, .int x, .int y, .int z] sz [(cI, .int)] [(fb, .inr (5, [.ref di, .ref gr, .ref re, .ref rl, .ref bu, .ref de])), (gr, .inr (2, [.ref gc, .ref gf, .ref gp, .ref gb, .ref gl, .int 0])), (bu, .inr (0, [.ref bs, .int 0, .int 0, .int 0])), (gc, .inl (cI, 12, .inl (fun _ => 0))), (gf, .inl (cI, 12, .inl (fun _ => 0))), (gp, .inl (cI, 12, .inl (fun _ => 0)))] (fun (r : Int32) (_ : Unit) => r = 0) (fun _ => []) (fun _ => []) := by
  refine xMi_of (by decide +kernel) rfl (Nat.le_of_ble_eq_true rfl) ?_
  intro p e s m args below meth c ls A B hAe hA hsz hP hK hD hS hAm hTh hAs hl
  obtain ⟨⟨hx, hb, hml, hown, hts⟩, hret, hlk, hnm, hemp⟩ := id B
  have hl : lv_has ls 4 [(0, .ref fb), (1, .int x), (2, .int y), (3, .int z)] := hl
  refine lv_iload_n hx hb d_FB_edge_0 rfl (lv_at hl 1 rfl) ?_
  have hPc := hP.sub (ws' := []) [] rfl
  have hDc := hD.sub (ws' := []) [] (by decide) rfl
  have hKc := hK.sub (tys' := []) [] rfl
  refine xgi (wsC := []) (wr := [(fb, .inr (5, [.ref di, .ref gr, .ref re, .ref rl, .ref bu, .ref de])), (gr, .inr (2, [.ref gc, .ref gf, .ref gp, .ref gb, .ref gl, .int 0])), (bu, .inr (0, [.ref bs, .int 0, .int 0, .int 0])), (gc, .inl (cI, 12, .inl (fun _ => 0))), (gf, .inl (cI, 12, .inl (fun _ => 0))), (gp, .inl (cI, 12, .inl (fun _ => 0)))]) (va_runS (As := [.int x]) (rest := []) ⟨hx, hb, hml, hown, hts⟩ (c_FB_isCommand l  D x _ ) ⟨(callB_of 1 hts (x_good k_FB_isCommand) rfl rfl rfl (hts _ (List.mem_cons_of_mem _ tw_1)) (hts _ (List.mem_cons_of_mem _ tw_241)) (by decide +kernel) ⟨Nat.le_of_ble_eq_true rfl, Nat.le_of_ble_eq_true rfl⟩), (hts _ (List.mem_cons_of_mem _ tw_242))⟩ (xP_S hPc hKc hDc hAm hTh hAs hS) rfl rfl hl.1 rfl (lv_room (Nat.le_of_ble_eq_true rfl)) d_FB_edge_1 ⟨Nat.le_of_ble_eq_true rfl, Nat.le_of_ble_eq_true rfl⟩) hP hD hK hS hA [] [0, 1, 2, 3, 4, 5] rfl rfl (by decide) (by decide) (fun r1 _ H locs er1 hP hD hK hS => ?_)
  have er1 : r1 = xIn x 0 65535 := er1
  subst er1
  have hK : va_K D cl [(cI, .int)] s := hK
  have hP : va_P D cl [(fb, .inr (5, [.ref di, .ref gr, .ref re, .ref rl, .ref bu, .ref de])), (gr, .inr (2, [.ref gc, .ref gf, .ref gp, .ref gb, .ref gl, .int 0])), (bu, .inr (0, [.ref bs, .int 0, .int 0, .int 0])), (gc, .inl (cI, 12, .inl (fun _ => 0))), (gf, .inl (cI, 12, .inl (fun _ => 0))), (gp, .inl (cI, 12, .inl (fun _ => 0)))] H := hP
  have hD : va_D A [(fb, .inr (5, [.ref di, .ref gr, .ref re, .ref rl, .ref bu, .ref de])), (gr, .inr (2, [.ref gc, .ref gf, .ref gp, .ref gb, .ref gl, .int 0])), (bu, .inr (0, [.ref bs, .int 0, .int 0, .int 0])), (gc, .inl (cI, 12, .inl (fun _ => 0))), (gf, .inl (cI, 12, .inl (fun _ => 0))), (gp, .inl (cI, 12, .inl (fun _ => 0)))] := hD
  refine lv_if_eq (tgt := 23) hx hb d_FB_edge_4 (by decide) (fun b4 => ?_) (fun b4 => ?_)
  · first | exact absurd b4 (xne1 h.1) | exact absurd b11 (xne1 h.2.1) | exact absurd b20 (xne1 h.2.2)
  · refine lv_iload_n hx hb d_FB_edge_7 rfl (lv_at hl 2 rfl) ?_
    have hPc := hP.sub (ws' := []) [] rfl
    have hDc := hD.sub (ws' := []) [] (by decide) rfl
    have hKc := hK.sub (tys' := []) [] rfl
    refine xgi (wsC := []) (wr := [(fb, .inr (5, [.ref di, .ref gr, .ref re, .ref rl, .ref bu, .ref de])), (gr, .inr (2, [.ref gc, .ref gf, .ref gp, .ref gb, .ref gl, .int 0])), (bu, .inr (0, [.ref bs, .int 0, .int 0, .int 0])), (gc, .inl (cI, 12, .inl (fun _ => 0))), (gf, .inl (cI, 12, .inl (fun _ => 0))), (gp, .inl (cI, 12, .inl (fun _ => 0)))]) (va_runS (As := [.int y]) (rest := []) ⟨hx, hb, hml, hown, hts⟩ (c_FB_areFlags l  D y _ ) ⟨(callB_of 1 hts (x_good k_FB_areFlags) rfl rfl rfl (hts _ (List.mem_cons_of_mem _ tw_1)) (hts _ (List.mem_cons_of_mem _ tw_246)) (by decide +kernel) ⟨Nat.le_of_ble_eq_true rfl, Nat.le_of_ble_eq_true rfl⟩), (hts _ (List.mem_cons_of_mem _ tw_247))⟩ (xP_S hPc hKc hDc hAm hTh hAs hS) rfl rfl hl.1 rfl (lv_room (Nat.le_of_ble_eq_true rfl)) d_FB_edge_8 ⟨Nat.le_of_ble_eq_true rfl, Nat.le_of_ble_eq_true rfl⟩) hP hD hK hS hA [] [0, 1, 2, 3, 4, 5] rfl rfl (by decide) (by decide) (fun r2 _ H locs er2 hP hD hK hS => ?_)
    have er2 : r2 = xFl y := er2
    subst er2
    have hK : va_K D cl [(cI, .int)] s := hK
    have hP : va_P D cl [(fb, .inr (5, [.ref di, .ref gr, .ref re, .ref rl, .ref bu, .ref de])), (gr, .inr (2, [.ref gc, .ref gf, .ref gp, .ref gb, .ref gl, .int 0])), (bu, .inr (0, [.ref bs, .int 0, .int 0, .int 0])), (gc, .inl (cI, 12, .inl (fun _ => 0))), (gf, .inl (cI, 12, .inl (fun _ => 0))), (gp, .inl (cI, 12, .inl (fun _ => 0)))] H := hP
    have hD : va_D A [(fb, .inr (5, [.ref di, .ref gr, .ref re, .ref rl, .ref bu, .ref de])), (gr, .inr (2, [.ref gc, .ref gf, .ref gp, .ref gb, .ref gl, .int 0])), (bu, .inr (0, [.ref bs, .int 0, .int 0, .int 0])), (gc, .inl (cI, 12, .inl (fun _ => 0))), (gf, .inl (cI, 12, .inl (fun _ => 0))), (gp, .inl (cI, 12, .inl (fun _ => 0)))] := hD
    refine lv_if_eq (tgt := 23) hx hb d_FB_edge_11 (by decide) (fun b11 => ?_) (fun b11 => ?_)
    · first | exact absurd b4 (xne1 h.1) | exact absurd b11 (xne1 h.2.1) | exact absurd b20 (xne1 h.2.2)
    · refine lv_iload_n hx hb d_FB_edge_14 rfl (lv_at hl 3 rfl) ?_
      refine lv_iconst (v := 0) hx hb d_FB_edge_15 (by decide) ?_
      refine lv_iconst (v := 2) hx hb d_FB_edge_16 (by decide) ?_
      have hPc := hP.sub (ws' := []) [] rfl
      have hDc := hD.sub (ws' := []) [] (by decide) rfl
      have hKc := hK.sub (tys' := []) [] rfl
      refine xgi (wsC := []) (wr := [(fb, .inr (5, [.ref di, .ref gr, .ref re, .ref rl, .ref bu, .ref de])), (gr, .inr (2, [.ref gc, .ref gf, .ref gp, .ref gb, .ref gl, .int 0])), (bu, .inr (0, [.ref bs, .int 0, .int 0, .int 0])), (gc, .inl (cI, 12, .inl (fun _ => 0))), (gf, .inl (cI, 12, .inl (fun _ => 0))), (gp, .inl (cI, 12, .inl (fun _ => 0)))]) (va_runS (As := [.int z, .int 0, .int 2]) (rest := []) ⟨hx, hb, hml, hown, hts⟩ (c_FB_isIn l  D z 0 2 _ ) ⟨(callB_of 3 hts (x_good k_FB_isIn) rfl rfl rfl (hts _ (List.mem_cons_of_mem _ tw_1)) (hts _ (List.mem_cons_of_mem _ tw_245)) (by decide +kernel) ⟨Nat.le_of_ble_eq_true rfl, Nat.le_of_ble_eq_true rfl⟩), (hts _ (List.mem_cons_of_mem _ tw_226))⟩ (xP_S hPc hKc hDc hAm hTh hAs hS) rfl rfl hl.1 rfl (lv_room (Nat.le_of_ble_eq_true rfl)) d_FB_edge_17 ⟨Nat.le_of_ble_eq_true rfl, Nat.le_of_ble_eq_true rfl⟩) hP hD hK hS hA [] [0, 1, 2, 3, 4, 5] rfl rfl (by decide) (by decide) (fun r3 _ H locs er3 hP hD hK hS => ?_)
      have er3 : r3 = xIn z 0 2 := er3
      subst er3
      have hK : va_K D cl [(cI, .int)] s := hK
      have hP : va_P D cl [(fb, .inr (5, [.ref di, .ref gr, .ref re, .ref rl, .ref bu, .ref de])), (gr, .inr (2, [.ref gc, .ref gf, .ref gp, .ref gb, .ref gl, .int 0])), (bu, .inr (0, [.ref bs, .int 0, .int 0, .int 0])), (gc, .inl (cI, 12, .inl (fun _ => 0))), (gf, .inl (cI, 12, .inl (fun _ => 0))), (gp, .inl (cI, 12, .inl (fun _ => 0)))] H := hP
      have hD : va_D A [(fb, .inr (5, [.ref di, .ref gr, .ref re, .ref rl, .ref bu, .ref de])), (gr, .inr (2, [.ref gc, .ref gf, .ref gp, .ref gb, .ref gl, .int 0])), (bu, .inr (0, [.ref bs, .int 0, .int 0, .int 0])), (gc, .inl (cI, 12, .inl (fun _ => 0))), (gf, .inl (cI, 12, .inl (fun _ => 0))), (gp, .inl (cI, 12, .inl (fun _ => 0)))] := hD
      refine lv_if_ne (tgt := 33) hx hb d_FB_edge_20 (by decide) (fun b20 => ?_) (fun b20 => ?_)
      · refine lv_aload_n hx hb d_FB_edge_33 rfl (lv_at hl 0 rfl) ?_
        refine va_get (D := D) (ci := 5) (v := .ref gr) (C := R_FB) (T := F_FB) (N := 6) hx hb hts (fun w h => List.mem_cons_of_mem _ (u_FB w h)) hown hK hP 0 rfl rfl 1 (by decide) (hts _ (List.mem_cons_of_mem _ tw_147)) (fun _ h9 => h9) rfl d_FB_edge_34 ?_
        refine va_getN (D := D) (ci := 2) (v := .int 0) (C := R_Gr) (T := F_Gr) (N := 6) hx hb hts (fun w h => List.mem_cons_of_mem _ (u_Gr w h)) hown hK hP 1 rfl rfl 5 (by decide) (va_Nw.use rfl (hAm.1 _ (List.mem_of_getElem? (i := 9) rfl))) (fun _ h9 => h9) rfl d_FB_edge_37 ?_
        refine lv_bipush (v := 12) hx hb d_FB_edge_40 (by decide) ?_
        refine lv_icmp_ge (tgt := 55) hx hb d_FB_edge_42 (by decide) (fun b42 => absurd b42 (by decide)) (fun b42 => ?_)
        refine lv_aload_n hx hb d_FB_edge_45 rfl (lv_at hl 0 rfl) ?_
        refine va_get (D := D) (ci := 5) (v := .ref bu) (C := R_FB) (T := F_FB) (N := 6) hx hb hts (fun w h => List.mem_cons_of_mem _ (u_FB w h)) hown hK hP 0 rfl rfl 4 (by decide) (hts _ (List.mem_cons_of_mem _ tw_150)) (fun _ h9 => h9) rfl d_FB_edge_46 ?_
        have hPc := hP.sub (ws' := [(bu, .inr (0, [.ref bs, .int 0, .int 0, .int 0]))]) [2] rfl
        have hDc := hD.sub (ws' := [(bu, .inr (0, [.ref bs, .int 0, .int 0, .int 0]))]) [2] (by decide) rfl
        have hKc := hK.sub (tys' := []) [] rfl
        refine xgi (wsC := [(bu, .inr (0, [.ref bs, .int 0, .int 0, .int 0]))]) (wr := [(fb, .inr (5, [.ref di, .ref gr, .ref re, .ref rl, .ref bu, .ref de])), (gr, .inr (2, [.ref gc, .ref gf, .ref gp, .ref gb, .ref gl, .int 0])), (gc, .inl (cI, 12, .inl (fun _ => 0))), (gf, .inl (cI, 12, .inl (fun _ => 0))), (gp, .inl (cI, 12, .inl (fun _ => 0)))]) (va_runVN (As := []) (rest := []) ⟨hx, hb, hml, hown, hts⟩ (c_Bu_isUnderWay l  D bu bs _ ) ⟨(va_cnB 0 hts (x_good k_Bu_isUnderWay) rfl rfl rfl (hAm.1 _ (List.mem_of_getElem? (i := 23) rfl)) (hts _ (List.mem_cons_of_mem _ tw_7)) (by decide +kernel) ⟨Nat.le_of_ble_eq_true rfl, Nat.le_of_ble_eq_true rfl⟩), (hts _ (List.mem_cons_of_mem _ tw_171)), (hts _ (List.mem_cons_of_mem _ (x_sel 0 rfl)))⟩ (xP_V (va_recv (ci := 0) (q0 := 2) hK hP rfl rfl) hPc hKc hDc hAm hTh hAs hS) rfl rfl hl.1 rfl (lv_room (Nat.le_of_ble_eq_true rfl)) d_FB_edge_49 ⟨Nat.le_of_ble_eq_true rfl, Nat.le_of_ble_eq_true rfl⟩) hP hD hK hS hA [2] [0, 1, 3, 4, 5] rfl rfl (by decide) (by decide) (fun r4 _ H locs er4 hP hD hK hS => ?_)
        have er4 : r4 = 0 := er4
        subst er4
        have hK : va_K D cl [(cI, .int)] s := hK
        have hP : va_P D cl [(fb, .inr (5, [.ref di, .ref gr, .ref re, .ref rl, .ref bu, .ref de])), (gr, .inr (2, [.ref gc, .ref gf, .ref gp, .ref gb, .ref gl, .int 0])), (gc, .inl (cI, 12, .inl (fun _ => 0))), (gf, .inl (cI, 12, .inl (fun _ => 0))), (gp, .inl (cI, 12, .inl (fun _ => 0))), (bu, .inr (0, [.ref bs, .int 0, .int 0, .int 0]))] H := hP
        have hD : va_D A [(fb, .inr (5, [.ref di, .ref gr, .ref re, .ref rl, .ref bu, .ref de])), (gr, .inr (2, [.ref gc, .ref gf, .ref gp, .ref gb, .ref gl, .int 0])), (gc, .inl (cI, 12, .inl (fun _ => 0))), (gf, .inl (cI, 12, .inl (fun _ => 0))), (gp, .inl (cI, 12, .inl (fun _ => 0))), (bu, .inr (0, [.ref bs, .int 0, .int 0, .int 0]))] := hD
        refine lv_if_eq (tgt := 65) hx hb d_FB_edge_52 (by decide) (fun b52 => ?_) (fun b52 => absurd b52 (by decide))
        refine lv_aload_n hx hb d_FB_edge_65 rfl (lv_at hl 0 rfl) ?_
        refine va_get (D := D) (ci := 5) (v := .ref gr) (C := R_FB) (T := F_FB) (N := 6) hx hb hts (fun w h => List.mem_cons_of_mem _ (u_FB w h)) hown hK hP 0 rfl rfl 1 (by decide) (hts _ (List.mem_cons_of_mem _ tw_147)) (fun _ h9 => h9) rfl d_FB_edge_66 ?_
        refine lv_iload_n hx hb d_FB_edge_69 rfl (lv_at hl 1 rfl) ?_
        refine lv_iload_n hx hb d_FB_edge_70 rfl (lv_at hl 2 rfl) ?_
        refine lv_iload_n hx hb d_FB_edge_71 rfl (lv_at hl 3 rfl) ?_
        have hPc := hP.sub (ws' := [(gr, .inr (2, [.ref gc, .ref gf, .ref gp, .ref gb, .ref gl, .int 0])), (gc, .inl (cI, 12, .inl (fun _ => 0))), (gf, .inl (cI, 12, .inl (fun _ => 0))), (gp, .inl (cI, 12, .inl (fun _ => 0)))]) [1, 2, 3, 4] rfl
        have hDc := hD.sub (ws' := [(gr, .inr (2, [.ref gc, .ref gf, .ref gp, .ref gb, .ref gl, .int 0])), (gc, .inl (cI, 12, .inl (fun _ => 0))), (gf, .inl (cI, 12, .inl (fun _ => 0))), (gp, .inl (cI, 12, .inl (fun _ => 0)))]) [1, 2, 3, 4] (by decide) rfl
        have hKc := hK.sub (tys' := [(cI, .int)]) [0] rfl
        refine xgi (wsC := [(gr, .inr (2, [.ref gc, .ref gf, .ref gp, .ref gb, .ref gl, .int 0])), (gc, .inl (cI, 12, .inl (fun _ => 0))), (gf, .inl (cI, 12, .inl (fun _ => 0))), (gp, .inl (cI, 12, .inl (fun _ => 0)))]) (wr := [(fb, .inr (5, [.ref di, .ref gr, .ref re, .ref rl, .ref bu, .ref de])), (bu, .inr (0, [.ref bs, .int 0, .int 0, .int 0]))]) (va_runVN (As := [.int x, .int y, .int z]) (rest := []) ⟨hx, hb, hml, hown, hts⟩ (c_Gr_addEdge l  D gr gc gf gp gb gl cI x y z _ ) ⟨(va_cnB 3 hts (x_good k_Gr_addEdge) rfl rfl rfl (hAm.1 _ (List.mem_of_getElem? (i := 37) rfl)) (hts _ (List.mem_cons_of_mem _ tw_3)) (by decide +kernel) ⟨Nat.le_of_ble_eq_true rfl, Nat.le_of_ble_eq_true rfl⟩), (hts _ (List.mem_cons_of_mem _ tw_336)), (hts _ (List.mem_cons_of_mem _ (x_sel 13 rfl)))⟩ (xP_V (va_recv (ci := 2) (q0 := 1) hK hP rfl rfl) hPc hKc hDc hAm hTh hAs hS) rfl rfl hl.1 rfl (lv_room (Nat.le_of_ble_eq_true rfl)) d_FB_edge_72 ⟨Nat.le_of_ble_eq_true rfl, Nat.le_of_ble_eq_true rfl⟩) hP hD hK hS hA [1, 2, 3, 4] [0, 5] rfl rfl (by decide) (by decide) (fun r5 _ H locs er5 hP hD hK hS => ?_)
        have er5 : r5 = 0 := er5
        subst er5
        have hK : va_K D cl [(cI, .int)] s := hK
        have hP : va_P D cl [(fb, .inr (5, [.ref di, .ref gr, .ref re, .ref rl, .ref bu, .ref de])), (bu, .inr (0, [.ref bs, .int 0, .int 0, .int 0]))] H := hP
        have hD : va_D A [(fb, .inr (5, [.ref di, .ref gr, .ref re, .ref rl, .ref bu, .ref de])), (bu, .inr (0, [.ref bs, .int 0, .int 0, .int 0]))] := hD
        exact xri () B d_FB_edge_75 (rfl) (hP.sub (ws' := []) [] rfl) (hK.sub (tys' := []) [] rfl) (hD.sub (ws' := []) [] (by decide) rfl) hS (Nat.le_of_ble_eq_true rfl) (Nat.le_of_ble_eq_true rfl)
      · first | exact absurd b4 (xne1 h.1) | exact absurd b11 (xne1 h.2.1) | exact absurd b20 (xne1 h.2.2)
theorem d_FB_edge_23 : decode b_FB_edge 23 = .ok (.new 65, 3) := by decide +kernel
theorem d_FB_edge_26 : decode b_FB_edge 26 = .ok (.dup, 1) := by decide +kernel
theorem d_FB_edge_27 : decode b_FB_edge 27 = .ok (.ldc 67, 2) := by decide +kernel
theorem d_FB_edge_29 : decode b_FB_edge 29 = .ok (.invokespecial 69, 3) := by decide +kernel
theorem d_FB_edge_32 : decode b_FB_edge 32 = .ok (.athrow, 1) := by decide +kernel
set_option maxRecDepth 20000 in
set_option maxHeartbeats 4000000 in
theorem c_FB_edge_t (l : Launch) (hfl : l.flags = pinnedFlags ++ [noTraceFlag]) (D : va_G) (fb : Nat) (gr : Nat) (bu : Nat) (gc : Nat) (gf : Nat) (gp : Nat) (di : Nat) (re : Nat) (rl : Nat) (de : Nat) (gb : Nat) (gl : Nat) (bs : Nat) (cI : ClassId) (x : Int32) (y : Int32) (z : Int32) (sz : Nat) (h : ¬ xokE x y z) : xMt l y_FB_edge w_FB_edge { frames := 7, cells := 1, slots := 6, locals := 110 } D cl [.ref fb, .int x, .int y, .int z] sz [(cI, .int)] [(fb, .inr (5, [.ref di, .ref gr, .ref re, .ref rl, .ref bu, .ref de])), (gr, .inr (2, [.ref gc, .ref gf, .ref gp, .ref gb, .ref gl, .int 0])), (bu, .inr (0, [.ref bs, .int 0, .int 0, .int 0])), (gc, .inl (cI, 12, .inl (fun _ => 0))), (gf, .inl (cI, 12, .inl (fun _ => 0))), (gp, .inl (cI, 12, .inl (fun _ => 0)))] "java/lang/IllegalArgumentException" := by
  refine xMt_of (by decide +kernel) rfl (Nat.le_of_ble_eq_true rfl) ?_
  intro p e s m args below meth c ls A B hAe hA hsz hP hK hD hS hAm hTh hAs hl
  obtain ⟨⟨hx, hb, hml, hown, hts⟩, hret, hlk, hnm, hemp⟩ := id B
  have hl : lv_has ls 4 [(0, .ref fb), (1, .int x), (2, .int y), (3, .int z)] := hl
  refine lv_iload_n hx hb d_FB_edge_0 rfl (lv_at hl 1 rfl) ?_
  have hPc := hP.sub (ws' := []) [] rfl
  have hDc := hD.sub (ws' := []) [] (by decide) rfl
  have hKc := hK.sub (tys' := []) [] rfl
  refine xgi (wsC := []) (wr := [(fb, .inr (5, [.ref di, .ref gr, .ref re, .ref rl, .ref bu, .ref de])), (gr, .inr (2, [.ref gc, .ref gf, .ref gp, .ref gb, .ref gl, .int 0])), (bu, .inr (0, [.ref bs, .int 0, .int 0, .int 0])), (gc, .inl (cI, 12, .inl (fun _ => 0))), (gf, .inl (cI, 12, .inl (fun _ => 0))), (gp, .inl (cI, 12, .inl (fun _ => 0)))]) (va_runS (As := [.int x]) (rest := []) ⟨hx, hb, hml, hown, hts⟩ (c_FB_isCommand l  D x _ ) ⟨(callB_of 1 hts (x_good k_FB_isCommand) rfl rfl rfl (hts _ (List.mem_cons_of_mem _ tw_1)) (hts _ (List.mem_cons_of_mem _ tw_241)) (by decide +kernel) ⟨Nat.le_of_ble_eq_true rfl, Nat.le_of_ble_eq_true rfl⟩), (hts _ (List.mem_cons_of_mem _ tw_242))⟩ (xP_S hPc hKc hDc hAm hTh hAs hS) rfl rfl hl.1 rfl (lv_room (Nat.le_of_ble_eq_true rfl)) d_FB_edge_1 ⟨Nat.le_of_ble_eq_true rfl, Nat.le_of_ble_eq_true rfl⟩) hP hD hK hS hA [] [0, 1, 2, 3, 4, 5] rfl rfl (by decide) (by decide) (fun r1 _ H locs er1 hP hD hK hS => ?_)
  have er1 : r1 = xIn x 0 65535 := er1
  subst er1
  have hK : va_K D cl [(cI, .int)] s := hK
  have hP : va_P D cl [(fb, .inr (5, [.ref di, .ref gr, .ref re, .ref rl, .ref bu, .ref de])), (gr, .inr (2, [.ref gc, .ref gf, .ref gp, .ref gb, .ref gl, .int 0])), (bu, .inr (0, [.ref bs, .int 0, .int 0, .int 0])), (gc, .inl (cI, 12, .inl (fun _ => 0))), (gf, .inl (cI, 12, .inl (fun _ => 0))), (gp, .inl (cI, 12, .inl (fun _ => 0)))] H := hP
  have hD : va_D A [(fb, .inr (5, [.ref di, .ref gr, .ref re, .ref rl, .ref bu, .ref de])), (gr, .inr (2, [.ref gc, .ref gf, .ref gp, .ref gb, .ref gl, .int 0])), (bu, .inr (0, [.ref bs, .int 0, .int 0, .int 0])), (gc, .inl (cI, 12, .inl (fun _ => 0))), (gf, .inl (cI, 12, .inl (fun _ => 0))), (gp, .inl (cI, 12, .inl (fun _ => 0)))] := hD
  refine lv_if_eq (tgt := 23) hx hb d_FB_edge_4 (by decide) (fun b4 => ?_) (fun b4 => ?_)
  · obtain ⟨qz, hZ⟩ := hAm.2.1 _ (List.mem_of_getElem? (i := 0) rfl)
    exact xt_throw hx hb (hml.trans hl.1.symm) hfl hlk hemp (names := ["java/lang/RuntimeException", "java/lang/Exception"]) hown (hts _ (List.mem_cons_of_mem _ tw_249)) (hts _ (List.mem_cons_of_mem _ tw_250)) (hts _ (List.mem_cons_of_mem _ tw_12)) (by decide +kernel) (by decide +kernel) (xOwn own_IAE hts hAm hTh) hZ hS hAs (Nat.le_of_ble_eq_true rfl) (Nat.le_of_ble_eq_true rfl) (Nat.le_of_ble_eq_true rfl) (Nat.le_of_ble_eq_true rfl) (by decide) (Nat.le_of_ble_eq_true rfl) d_FB_edge_23 d_FB_edge_26 d_FB_edge_27 d_FB_edge_29 d_FB_edge_32
  · refine lv_iload_n hx hb d_FB_edge_7 rfl (lv_at hl 2 rfl) ?_
    have hPc := hP.sub (ws' := []) [] rfl
    have hDc := hD.sub (ws' := []) [] (by decide) rfl
    have hKc := hK.sub (tys' := []) [] rfl
    refine xgi (wsC := []) (wr := [(fb, .inr (5, [.ref di, .ref gr, .ref re, .ref rl, .ref bu, .ref de])), (gr, .inr (2, [.ref gc, .ref gf, .ref gp, .ref gb, .ref gl, .int 0])), (bu, .inr (0, [.ref bs, .int 0, .int 0, .int 0])), (gc, .inl (cI, 12, .inl (fun _ => 0))), (gf, .inl (cI, 12, .inl (fun _ => 0))), (gp, .inl (cI, 12, .inl (fun _ => 0)))]) (va_runS (As := [.int y]) (rest := []) ⟨hx, hb, hml, hown, hts⟩ (c_FB_areFlags l  D y _ ) ⟨(callB_of 1 hts (x_good k_FB_areFlags) rfl rfl rfl (hts _ (List.mem_cons_of_mem _ tw_1)) (hts _ (List.mem_cons_of_mem _ tw_246)) (by decide +kernel) ⟨Nat.le_of_ble_eq_true rfl, Nat.le_of_ble_eq_true rfl⟩), (hts _ (List.mem_cons_of_mem _ tw_247))⟩ (xP_S hPc hKc hDc hAm hTh hAs hS) rfl rfl hl.1 rfl (lv_room (Nat.le_of_ble_eq_true rfl)) d_FB_edge_8 ⟨Nat.le_of_ble_eq_true rfl, Nat.le_of_ble_eq_true rfl⟩) hP hD hK hS hA [] [0, 1, 2, 3, 4, 5] rfl rfl (by decide) (by decide) (fun r2 _ H locs er2 hP hD hK hS => ?_)
    have er2 : r2 = xFl y := er2
    subst er2
    have hK : va_K D cl [(cI, .int)] s := hK
    have hP : va_P D cl [(fb, .inr (5, [.ref di, .ref gr, .ref re, .ref rl, .ref bu, .ref de])), (gr, .inr (2, [.ref gc, .ref gf, .ref gp, .ref gb, .ref gl, .int 0])), (bu, .inr (0, [.ref bs, .int 0, .int 0, .int 0])), (gc, .inl (cI, 12, .inl (fun _ => 0))), (gf, .inl (cI, 12, .inl (fun _ => 0))), (gp, .inl (cI, 12, .inl (fun _ => 0)))] H := hP
    have hD : va_D A [(fb, .inr (5, [.ref di, .ref gr, .ref re, .ref rl, .ref bu, .ref de])), (gr, .inr (2, [.ref gc, .ref gf, .ref gp, .ref gb, .ref gl, .int 0])), (bu, .inr (0, [.ref bs, .int 0, .int 0, .int 0])), (gc, .inl (cI, 12, .inl (fun _ => 0))), (gf, .inl (cI, 12, .inl (fun _ => 0))), (gp, .inl (cI, 12, .inl (fun _ => 0)))] := hD
    refine lv_if_eq (tgt := 23) hx hb d_FB_edge_11 (by decide) (fun b11 => ?_) (fun b11 => ?_)
    · obtain ⟨qz, hZ⟩ := hAm.2.1 _ (List.mem_of_getElem? (i := 0) rfl)
      exact xt_throw hx hb (hml.trans hl.1.symm) hfl hlk hemp (names := ["java/lang/RuntimeException", "java/lang/Exception"]) hown (hts _ (List.mem_cons_of_mem _ tw_249)) (hts _ (List.mem_cons_of_mem _ tw_250)) (hts _ (List.mem_cons_of_mem _ tw_12)) (by decide +kernel) (by decide +kernel) (xOwn own_IAE hts hAm hTh) hZ hS hAs (Nat.le_of_ble_eq_true rfl) (Nat.le_of_ble_eq_true rfl) (Nat.le_of_ble_eq_true rfl) (Nat.le_of_ble_eq_true rfl) (by decide) (Nat.le_of_ble_eq_true rfl) d_FB_edge_23 d_FB_edge_26 d_FB_edge_27 d_FB_edge_29 d_FB_edge_32
    · refine lv_iload_n hx hb d_FB_edge_14 rfl (lv_at hl 3 rfl) ?_
      refine lv_iconst (v := 0) hx hb d_FB_edge_15 (by decide) ?_
      refine lv_iconst (v := 2) hx hb d_FB_edge_16 (by decide) ?_
      have hPc := hP.sub (ws' := []) [] rfl
      have hDc := hD.sub (ws' := []) [] (by decide) rfl
      have hKc := hK.sub (tys' := []) [] rfl
      refine xgi (wsC := []) (wr := [(fb, .inr (5, [.ref di, .ref gr, .ref re, .ref rl, .ref bu, .ref de])), (gr, .inr (2, [.ref gc, .ref gf, .ref gp, .ref gb, .ref gl, .int 0])), (bu, .inr (0, [.ref bs, .int 0, .int 0, .int 0])), (gc, .inl (cI, 12, .inl (fun _ => 0))), (gf, .inl (cI, 12, .inl (fun _ => 0))), (gp, .inl (cI, 12, .inl (fun _ => 0)))]) (va_runS (As := [.int z, .int 0, .int 2]) (rest := []) ⟨hx, hb, hml, hown, hts⟩ (c_FB_isIn l  D z 0 2 _ ) ⟨(callB_of 3 hts (x_good k_FB_isIn) rfl rfl rfl (hts _ (List.mem_cons_of_mem _ tw_1)) (hts _ (List.mem_cons_of_mem _ tw_245)) (by decide +kernel) ⟨Nat.le_of_ble_eq_true rfl, Nat.le_of_ble_eq_true rfl⟩), (hts _ (List.mem_cons_of_mem _ tw_226))⟩ (xP_S hPc hKc hDc hAm hTh hAs hS) rfl rfl hl.1 rfl (lv_room (Nat.le_of_ble_eq_true rfl)) d_FB_edge_17 ⟨Nat.le_of_ble_eq_true rfl, Nat.le_of_ble_eq_true rfl⟩) hP hD hK hS hA [] [0, 1, 2, 3, 4, 5] rfl rfl (by decide) (by decide) (fun r3 _ H locs er3 hP hD hK hS => ?_)
      have er3 : r3 = xIn z 0 2 := er3
      subst er3
      have hK : va_K D cl [(cI, .int)] s := hK
      have hP : va_P D cl [(fb, .inr (5, [.ref di, .ref gr, .ref re, .ref rl, .ref bu, .ref de])), (gr, .inr (2, [.ref gc, .ref gf, .ref gp, .ref gb, .ref gl, .int 0])), (bu, .inr (0, [.ref bs, .int 0, .int 0, .int 0])), (gc, .inl (cI, 12, .inl (fun _ => 0))), (gf, .inl (cI, 12, .inl (fun _ => 0))), (gp, .inl (cI, 12, .inl (fun _ => 0)))] H := hP
      have hD : va_D A [(fb, .inr (5, [.ref di, .ref gr, .ref re, .ref rl, .ref bu, .ref de])), (gr, .inr (2, [.ref gc, .ref gf, .ref gp, .ref gb, .ref gl, .int 0])), (bu, .inr (0, [.ref bs, .int 0, .int 0, .int 0])), (gc, .inl (cI, 12, .inl (fun _ => 0))), (gf, .inl (cI, 12, .inl (fun _ => 0))), (gp, .inl (cI, 12, .inl (fun _ => 0)))] := hD
      refine lv_if_ne (tgt := 33) hx hb d_FB_edge_20 (by decide) (fun b20 => ?_) (fun b20 => ?_)
      · exact absurd ⟨xne0 (xIn_bin _ _ _) b4, xne0 (xFl_bin _) b11, xne0 (xIn_bin _ _ _) b20⟩ h
      · obtain ⟨qz, hZ⟩ := hAm.2.1 _ (List.mem_of_getElem? (i := 0) rfl)
        exact xt_throw hx hb (hml.trans hl.1.symm) hfl hlk hemp (names := ["java/lang/RuntimeException", "java/lang/Exception"]) hown (hts _ (List.mem_cons_of_mem _ tw_249)) (hts _ (List.mem_cons_of_mem _ tw_250)) (hts _ (List.mem_cons_of_mem _ tw_12)) (by decide +kernel) (by decide +kernel) (xOwn own_IAE hts hAm hTh) hZ hS hAs (Nat.le_of_ble_eq_true rfl) (Nat.le_of_ble_eq_true rfl) (Nat.le_of_ble_eq_true rfl) (Nat.le_of_ble_eq_true rfl) (by decide) (Nat.le_of_ble_eq_true rfl) d_FB_edge_23 d_FB_edge_26 d_FB_edge_27 d_FB_edge_29 d_FB_edge_32
theorem d_FB_link_0 : decode b_FB_link 0 = .ok (.aload_n 0, 1) := by decide +kernel
theorem d_FB_link_1 : decode b_FB_link 1 = .ok (.getfield 19, 3) := by decide +kernel
theorem d_FB_link_4 : decode b_FB_link 4 = .ok (.iload_n 1, 1) := by decide +kernel
theorem d_FB_link_5 : decode b_FB_link 5 = .ok (.invokevirtual 89, 3) := by decide +kernel
theorem d_FB_link_8 : decode b_FB_link 8 = .ok (.ifCond .eq (19), 3) := by decide +kernel
theorem d_FB_link_27 : decode b_FB_link 27 = .ok (.new 65, 3) := by decide +kernel
theorem d_FB_link_30 : decode b_FB_link 30 = .ok (.dup, 1) := by decide +kernel
theorem d_FB_link_31 : decode b_FB_link 31 = .ok (.ldc 95, 2) := by decide +kernel
theorem d_FB_link_33 : decode b_FB_link 33 = .ok (.invokespecial 69, 3) := by decide +kernel
theorem d_FB_link_36 : decode b_FB_link 36 = .ok (.athrow, 1) := by decide +kernel
set_option maxRecDepth 20000 in
set_option maxHeartbeats 4000000 in
theorem c_FB_link_t (l : Launch) (hfl : l.flags = pinnedFlags ++ [noTraceFlag]) (D : va_G) (fb : Nat) (gr : Nat) (di : Nat) (re : Nat) (rl : Nat) (bu : Nat) (de : Nat) (gc : Nat) (gf : Nat) (gp : Nat) (gb : Nat) (gl : Nat) (x : Int32) (y : Int32) (z : Int32) (sz : Nat)  : xMt l y_FB_link w_FB_link { frames := 7, cells := 1, slots := 6, locals := 110 } D cl [.ref fb, .int x, .int y, .int z] sz [] [(fb, .inr (5, [.ref di, .ref gr, .ref re, .ref rl, .ref bu, .ref de])), (gr, .inr (2, [.ref gc, .ref gf, .ref gp, .ref gb, .ref gl, .int 0]))] "java/lang/IllegalArgumentException" := by
  refine xMt_of (by decide +kernel) rfl (Nat.le_of_ble_eq_true rfl) ?_
  intro p e s m args below meth c ls A B hAe hA hsz hP hK hD hS hAm hTh hAs hl
  obtain ⟨⟨hx, hb, hml, hown, hts⟩, hret, hlk, hnm, hemp⟩ := id B
  have hl : lv_has ls 4 [(0, .ref fb), (1, .int x), (2, .int y), (3, .int z)] := hl
  refine lv_aload_n hx hb d_FB_link_0 rfl (lv_at hl 0 rfl) ?_
  refine va_get (D := D) (ci := 5) (v := .ref gr) (C := R_FB) (T := F_FB) (N := 6) hx hb hts (fun w h => List.mem_cons_of_mem _ (u_FB w h)) hown hK hP 0 rfl rfl 1 (by decide) (hts _ (List.mem_cons_of_mem _ tw_147)) (fun _ h9 => h9) rfl d_FB_link_1 ?_
  refine lv_iload_n hx hb d_FB_link_4 rfl (lv_at hl 1 rfl) ?_
  have hPc := hP.sub (ws' := [(gr, .inr (2, [.ref gc, .ref gf, .ref gp, .ref gb, .ref gl, .int 0]))]) [1] rfl
  have hDc := hD.sub (ws' := [(gr, .inr (2, [.ref gc, .ref gf, .ref gp, .ref gb, .ref gl, .int 0]))]) [1] (by decide) rfl
  have hKc := hK.sub (tys' := []) [] rfl
  refine xgi (wsC := [(gr, .inr (2, [.ref gc, .ref gf, .ref gp, .ref gb, .ref gl, .int 0]))]) (wr := [(fb, .inr (5, [.ref di, .ref gr, .ref re, .ref rl, .ref bu, .ref de]))]) (va_runVN (As := [.int x]) (rest := []) ⟨hx, hb, hml, hown, hts⟩ (c_Gr_hasEdge l  D gr gc gf gp gb gl x _ ) ⟨(va_cnB 1 hts (x_good k_Gr_hasEdge) rfl rfl rfl (hAm.1 _ (List.mem_of_getElem? (i := 38) rfl)) (hts _ (List.mem_cons_of_mem _ tw_3)) (by decide +kernel) ⟨Nat.le_of_ble_eq_true rfl, Nat.le_of_ble_eq_true rfl⟩), (hts _ (List.mem_cons_of_mem _ tw_347)), (hts _ (List.mem_cons_of_mem _ (x_sel 14 rfl)))⟩ (xP_V (va_recv (ci := 2) (q0 := 1) hK hP rfl rfl) hPc hKc hDc hAm hTh hAs hS) rfl rfl hl.1 rfl (lv_room (Nat.le_of_ble_eq_true rfl)) d_FB_link_5 ⟨Nat.le_of_ble_eq_true rfl, Nat.le_of_ble_eq_true rfl⟩) hP hD hK hS hA [1] [0] rfl rfl (by decide) (by decide) (fun r1 _ H locs er1 hP hD hK hS => ?_)
  have er1 : r1 = 0 := er1
  subst er1
  have hK : va_K D cl [] s := hK
  have hP : va_P D cl [(fb, .inr (5, [.ref di, .ref gr, .ref re, .ref rl, .ref bu, .ref de])), (gr, .inr (2, [.ref gc, .ref gf, .ref gp, .ref gb, .ref gl, .int 0]))] H := hP
  have hD : va_D A [(fb, .inr (5, [.ref di, .ref gr, .ref re, .ref rl, .ref bu, .ref de])), (gr, .inr (2, [.ref gc, .ref gf, .ref gp, .ref gb, .ref gl, .int 0]))] := hD
  refine lv_if_eq (tgt := 27) hx hb d_FB_link_8 (by decide) (fun b8 => ?_) (fun b8 => absurd b8 (by decide))
  obtain ⟨qz, hZ⟩ := hAm.2.1 _ (List.mem_of_getElem? (i := 2) rfl)
  exact xt_throw hx hb (hml.trans hl.1.symm) hfl hlk hemp (names := ["java/lang/RuntimeException", "java/lang/Exception"]) hown (hts _ (List.mem_cons_of_mem _ tw_249)) (hts _ (List.mem_cons_of_mem _ tw_250)) (hts _ (List.mem_cons_of_mem _ tw_12)) (by decide +kernel) (by decide +kernel) (xOwn own_IAE hts hAm hTh) hZ hS hAs (Nat.le_of_ble_eq_true rfl) (Nat.le_of_ble_eq_true rfl) (Nat.le_of_ble_eq_true rfl) (Nat.le_of_ble_eq_true rfl) (by decide) (Nat.le_of_ble_eq_true rfl) d_FB_link_27 d_FB_link_30 d_FB_link_31 d_FB_link_33 d_FB_link_36
theorem d_FB_reads_0 : decode b_FB_reads 0 = .ok (.aload_n 0, 1) := by decide +kernel
theorem d_FB_reads_1 : decode b_FB_reads 1 = .ok (.getfield 19, 3) := by decide +kernel
theorem d_FB_reads_4 : decode b_FB_reads 4 = .ok (.iload_n 1, 1) := by decide +kernel
theorem d_FB_reads_5 : decode b_FB_reads 5 = .ok (.invokevirtual 89, 3) := by decide +kernel
theorem d_FB_reads_8 : decode b_FB_reads 8 = .ok (.ifCond .eq (21), 3) := by decide +kernel
theorem d_FB_reads_29 : decode b_FB_reads 29 = .ok (.new 65, 3) := by decide +kernel
theorem d_FB_reads_32 : decode b_FB_reads 32 = .ok (.dup, 1) := by decide +kernel
theorem d_FB_reads_33 : decode b_FB_reads 33 = .ok (.ldc 110, 2) := by decide +kernel
theorem d_FB_reads_35 : decode b_FB_reads 35 = .ok (.invokespecial 69, 3) := by decide +kernel
theorem d_FB_reads_38 : decode b_FB_reads 38 = .ok (.athrow, 1) := by decide +kernel
set_option maxRecDepth 20000 in
set_option maxHeartbeats 4000000 in
theorem c_FB_reads_t (l : Launch) (hfl : l.flags = pinnedFlags ++ [noTraceFlag]) (D : va_G) (fb : Nat) (gr : Nat) (di : Nat) (re : Nat) (rl : Nat) (bu : Nat) (de : Nat) (gc : Nat) (gf : Nat) (gp : Nat) (gb : Nat) (gl : Nat) (x : Int32) (y : Int32) (z : Int32) (sz : Nat)  : xMt l y_FB_reads w_FB_reads { frames := 7, cells := 1, slots := 6, locals := 110 } D cl [.ref fb, .int x, .int y, .int z] sz [] [(fb, .inr (5, [.ref di, .ref gr, .ref re, .ref rl, .ref bu, .ref de])), (gr, .inr (2, [.ref gc, .ref gf, .ref gp, .ref gb, .ref gl, .int 0]))] "java/lang/IllegalArgumentException" := by
  refine xMt_of (by decide +kernel) rfl (Nat.le_of_ble_eq_true rfl) ?_
  intro p e s m args below meth c ls A B hAe hA hsz hP hK hD hS hAm hTh hAs hl
  obtain ⟨⟨hx, hb, hml, hown, hts⟩, hret, hlk, hnm, hemp⟩ := id B
  have hl : lv_has ls 4 [(0, .ref fb), (1, .int x), (2, .int y), (3, .int z)] := hl
  refine lv_aload_n hx hb d_FB_reads_0 rfl (lv_at hl 0 rfl) ?_
  refine va_get (D := D) (ci := 5) (v := .ref gr) (C := R_FB) (T := F_FB) (N := 6) hx hb hts (fun w h => List.mem_cons_of_mem _ (u_FB w h)) hown hK hP 0 rfl rfl 1 (by decide) (hts _ (List.mem_cons_of_mem _ tw_147)) (fun _ h9 => h9) rfl d_FB_reads_1 ?_
  refine lv_iload_n hx hb d_FB_reads_4 rfl (lv_at hl 1 rfl) ?_
  have hPc := hP.sub (ws' := [(gr, .inr (2, [.ref gc, .ref gf, .ref gp, .ref gb, .ref gl, .int 0]))]) [1] rfl
  have hDc := hD.sub (ws' := [(gr, .inr (2, [.ref gc, .ref gf, .ref gp, .ref gb, .ref gl, .int 0]))]) [1] (by decide) rfl
  have hKc := hK.sub (tys' := []) [] rfl
  refine xgi (wsC := [(gr, .inr (2, [.ref gc, .ref gf, .ref gp, .ref gb, .ref gl, .int 0]))]) (wr := [(fb, .inr (5, [.ref di, .ref gr, .ref re, .ref rl, .ref bu, .ref de]))]) (va_runVN (As := [.int x]) (rest := []) ⟨hx, hb, hml, hown, hts⟩ (c_Gr_hasEdge l  D gr gc gf gp gb gl x _ ) ⟨(va_cnB 1 hts (x_good k_Gr_hasEdge) rfl rfl rfl (hAm.1 _ (List.mem_of_getElem? (i := 38) rfl)) (hts _ (List.mem_cons_of_mem _ tw_3)) (by decide +kernel) ⟨Nat.le_of_ble_eq_true rfl, Nat.le_of_ble_eq_true rfl⟩), (hts _ (List.mem_cons_of_mem _ tw_347)), (hts _ (List.mem_cons_of_mem _ (x_sel 14 rfl)))⟩ (xP_V (va_recv (ci := 2) (q0 := 1) hK hP rfl rfl) hPc hKc hDc hAm hTh hAs hS) rfl rfl hl.1 rfl (lv_room (Nat.le_of_ble_eq_true rfl)) d_FB_reads_5 ⟨Nat.le_of_ble_eq_true rfl, Nat.le_of_ble_eq_true rfl⟩) hP hD hK hS hA [1] [0] rfl rfl (by decide) (by decide) (fun r1 _ H locs er1 hP hD hK hS => ?_)
  have er1 : r1 = 0 := er1
  subst er1
  have hK : va_K D cl [] s := hK
  have hP : va_P D cl [(fb, .inr (5, [.ref di, .ref gr, .ref re, .ref rl, .ref bu, .ref de])), (gr, .inr (2, [.ref gc, .ref gf, .ref gp, .ref gb, .ref gl, .int 0]))] H := hP
  have hD : va_D A [(fb, .inr (5, [.ref di, .ref gr, .ref re, .ref rl, .ref bu, .ref de])), (gr, .inr (2, [.ref gc, .ref gf, .ref gp, .ref gb, .ref gl, .int 0]))] := hD
  refine lv_if_eq (tgt := 29) hx hb d_FB_reads_8 (by decide) (fun b8 => ?_) (fun b8 => absurd b8 (by decide))
  obtain ⟨qz, hZ⟩ := hAm.2.1 _ (List.mem_of_getElem? (i := 4) rfl)
  exact xt_throw hx hb (hml.trans hl.1.symm) hfl hlk hemp (names := ["java/lang/RuntimeException", "java/lang/Exception"]) hown (hts _ (List.mem_cons_of_mem _ tw_249)) (hts _ (List.mem_cons_of_mem _ tw_250)) (hts _ (List.mem_cons_of_mem _ tw_12)) (by decide +kernel) (by decide +kernel) (xOwn own_IAE hts hAm hTh) hZ hS hAs (Nat.le_of_ble_eq_true rfl) (Nat.le_of_ble_eq_true rfl) (Nat.le_of_ble_eq_true rfl) (Nat.le_of_ble_eq_true rfl) (by decide) (Nat.le_of_ble_eq_true rfl) d_FB_reads_29 d_FB_reads_32 d_FB_reads_33 d_FB_reads_35 d_FB_reads_38
theorem d_FB_command_0 : decode b_FB_command 0 = .ok (.aload_n 0, 1) := by decide +kernel
theorem d_FB_command_1 : decode b_FB_command 1 = .ok (.getfield 19, 3) := by decide +kernel
theorem d_FB_command_4 : decode b_FB_command 4 = .ok (.iload_n 1, 1) := by decide +kernel
theorem d_FB_command_5 : decode b_FB_command 5 = .ok (.invokevirtual 89, 3) := by decide +kernel
theorem d_FB_command_8 : decode b_FB_command 8 = .ok (.ifCond .eq (10), 3) := by decide +kernel
theorem d_FB_command_18 : decode b_FB_command 18 = .ok (.new 65, 3) := by decide +kernel
theorem d_FB_command_21 : decode b_FB_command 21 = .ok (.dup, 1) := by decide +kernel
theorem d_FB_command_22 : decode b_FB_command 22 = .ok (.ldc 128, 2) := by decide +kernel
theorem d_FB_command_24 : decode b_FB_command 24 = .ok (.invokespecial 69, 3) := by decide +kernel
theorem d_FB_command_27 : decode b_FB_command 27 = .ok (.athrow, 1) := by decide +kernel
set_option maxRecDepth 20000 in
set_option maxHeartbeats 4000000 in
theorem c_FB_command_t (l : Launch) (hfl : l.flags = pinnedFlags ++ [noTraceFlag]) (D : va_G) (fb : Nat) (gr : Nat) (di : Nat) (re : Nat) (rl : Nat) (bu : Nat) (de : Nat) (gc : Nat) (gf : Nat) (gp : Nat) (gb : Nat) (gl : Nat) (x : Int32) (y : Int32) (sz : Nat)  : xMt l y_FB_command w_FB_command { frames := 7, cells := 1, slots := 6, locals := 110 } D cl [.ref fb, .int x, .int y] sz [] [(fb, .inr (5, [.ref di, .ref gr, .ref re, .ref rl, .ref bu, .ref de])), (gr, .inr (2, [.ref gc, .ref gf, .ref gp, .ref gb, .ref gl, .int 0]))] "java/lang/IllegalArgumentException" := by
  refine xMt_of (by decide +kernel) rfl (Nat.le_of_ble_eq_true rfl) ?_
  intro p e s m args below meth c ls A B hAe hA hsz hP hK hD hS hAm hTh hAs hl
  obtain ⟨⟨hx, hb, hml, hown, hts⟩, hret, hlk, hnm, hemp⟩ := id B
  have hl : lv_has ls 3 [(0, .ref fb), (1, .int x), (2, .int y)] := hl
  refine lv_aload_n hx hb d_FB_command_0 rfl (lv_at hl 0 rfl) ?_
  refine va_get (D := D) (ci := 5) (v := .ref gr) (C := R_FB) (T := F_FB) (N := 6) hx hb hts (fun w h => List.mem_cons_of_mem _ (u_FB w h)) hown hK hP 0 rfl rfl 1 (by decide) (hts _ (List.mem_cons_of_mem _ tw_147)) (fun _ h9 => h9) rfl d_FB_command_1 ?_
  refine lv_iload_n hx hb d_FB_command_4 rfl (lv_at hl 1 rfl) ?_
  have hPc := hP.sub (ws' := [(gr, .inr (2, [.ref gc, .ref gf, .ref gp, .ref gb, .ref gl, .int 0]))]) [1] rfl
  have hDc := hD.sub (ws' := [(gr, .inr (2, [.ref gc, .ref gf, .ref gp, .ref gb, .ref gl, .int 0]))]) [1] (by decide) rfl
  have hKc := hK.sub (tys' := []) [] rfl
  refine xgi (wsC := [(gr, .inr (2, [.ref gc, .ref gf, .ref gp, .ref gb, .ref gl, .int 0]))]) (wr := [(fb, .inr (5, [.ref di, .ref gr, .ref re, .ref rl, .ref bu, .ref de]))]) (va_runVN (As := [.int x]) (rest := []) ⟨hx, hb, hml, hown, hts⟩ (c_Gr_hasEdge l  D gr gc gf gp gb gl x _ ) ⟨(va_cnB 1 hts (x_good k_Gr_hasEdge) rfl rfl rfl (hAm.1 _ (List.mem_of_getElem? (i := 38) rfl)) (hts _ (List.mem_cons_of_mem _ tw_3)) (by decide +kernel) ⟨Nat.le_of_ble_eq_true rfl, Nat.le_of_ble_eq_true rfl⟩), (hts _ (List.mem_cons_of_mem _ tw_347)), (hts _ (List.mem_cons_of_mem _ (x_sel 14 rfl)))⟩ (xP_V (va_recv (ci := 2) (q0 := 1) hK hP rfl rfl) hPc hKc hDc hAm hTh hAs hS) rfl rfl hl.1 rfl (lv_room (Nat.le_of_ble_eq_true rfl)) d_FB_command_5 ⟨Nat.le_of_ble_eq_true rfl, Nat.le_of_ble_eq_true rfl⟩) hP hD hK hS hA [1] [0] rfl rfl (by decide) (by decide) (fun r1 _ H locs er1 hP hD hK hS => ?_)
  have er1 : r1 = 0 := er1
  subst er1
  have hK : va_K D cl [] s := hK
  have hP : va_P D cl [(fb, .inr (5, [.ref di, .ref gr, .ref re, .ref rl, .ref bu, .ref de])), (gr, .inr (2, [.ref gc, .ref gf, .ref gp, .ref gb, .ref gl, .int 0]))] H := hP
  have hD : va_D A [(fb, .inr (5, [.ref di, .ref gr, .ref re, .ref rl, .ref bu, .ref de])), (gr, .inr (2, [.ref gc, .ref gf, .ref gp, .ref gb, .ref gl, .int 0]))] := hD
  refine lv_if_eq (tgt := 18) hx hb d_FB_command_8 (by decide) (fun b8 => ?_) (fun b8 => absurd b8 (by decide))
  obtain ⟨qz, hZ⟩ := hAm.2.1 _ (List.mem_of_getElem? (i := 6) rfl)
  exact xt_throw hx hb (hml.trans hl.1.symm) hfl hlk hemp (names := ["java/lang/RuntimeException", "java/lang/Exception"]) hown (hts _ (List.mem_cons_of_mem _ tw_249)) (hts _ (List.mem_cons_of_mem _ tw_250)) (hts _ (List.mem_cons_of_mem _ tw_12)) (by decide +kernel) (by decide +kernel) (xOwn own_IAE hts hAm hTh) hZ hS hAs (Nat.le_of_ble_eq_true rfl) (Nat.le_of_ble_eq_true rfl) (Nat.le_of_ble_eq_true rfl) (Nat.le_of_ble_eq_true rfl) (by decide) (Nat.le_of_ble_eq_true rfl) d_FB_command_18 d_FB_command_21 d_FB_command_22 d_FB_command_24 d_FB_command_27
theorem d_FB_pool_0 : decode b_FB_pool 0 = .ok (.iload_n 1, 1) := by decide +kernel
theorem d_FB_pool_1 : decode b_FB_pool 1 = .ok (.iconst (1), 1) := by decide +kernel
theorem d_FB_pool_2 : decode b_FB_pool 2 = .ok (.iconst (2), 1) := by decide +kernel
theorem d_FB_pool_3 : decode b_FB_pool 3 = .ok (.invokestatic 61, 3) := by decide +kernel
theorem d_FB_pool_6 : decode b_FB_pool 6 = .ok (.ifCond .eq (12), 3) := by decide +kernel
theorem d_FB_pool_9 : decode b_FB_pool 9 = .ok (.iload_n 2, 1) := by decide +kernel
theorem d_FB_pool_10 : decode b_FB_pool 10 = .ok (.iconst (1), 1) := by decide +kernel
theorem d_FB_pool_11 : decode b_FB_pool 11 = .ok (.iconst (4), 1) := by decide +kernel
theorem d_FB_pool_12 : decode b_FB_pool 12 = .ok (.invokestatic 61, 3) := by decide +kernel
theorem d_FB_pool_15 : decode b_FB_pool 15 = .ok (.ifCond .ne (13), 3) := by decide +kernel
theorem d_FB_pool_28 : decode b_FB_pool 28 = .ok (.aload_n 0, 1) := by decide +kernel
theorem d_FB_pool_29 : decode b_FB_pool 29 = .ok (.invokevirtual 130, 3) := by decide +kernel
theorem d_FB_pool_32 : decode b_FB_pool 32 = .ok (.aload_n 0, 1) := by decide +kernel
theorem d_FB_pool_33 : decode b_FB_pool 33 = .ok (.getfield 44, 3) := by decide +kernel
theorem d_FB_pool_36 : decode b_FB_pool 36 = .ok (.iload_n 1, 1) := by decide +kernel
theorem d_FB_pool_37 : decode b_FB_pool 37 = .ok (.iload_n 2, 1) := by decide +kernel
theorem d_FB_pool_38 : decode b_FB_pool 38 = .ok (.iastore, 1) := by decide +kernel
theorem d_FB_pool_39 : decode b_FB_pool 39 = .ok (.return_, 1) := by decide +kernel
set_option maxRecDepth 20000 in
set_option maxHeartbeats 4000000 in
theorem c_FB_pool (l : Launch) (D : va_G) (fb : Nat) (bu : Nat) (de : Nat) (di : Nat) (gr : Nat) (re : Nat) (rl : Nat) (bs : Nat) (cI : ClassId) (x : Int32) (y : Int32) (sz : Nat) (h : xIn x 1 2 = 1 ∧ xIn y 1 4 = 1) : xMv l y_FB_pool w_FB_pool { frames := 2, cells := 0, slots := 0, locals := 60 } D cl [.ref fb, .int x, .int y] sz [(cI, .int)] [(fb, .inr (5, [.ref di, .ref gr, .ref re, .ref rl, .ref bu, .ref de])), (bu, .inr (0, [.ref bs, .int 0, .int 0, .int 0])), (de, .inl (cI, 3, .inl (fun _ => 1)))] (fun (_ : Unit) => True) (fun _ => []) (fun _ => []) := by
  refine xMv_of (by decide +kernel) rfl (Nat.le_of_ble_eq_true rfl) ?_
  intro p e s m args below meth c ls A B hAe hA hsz hP hK hD hS hAm hTh hAs hl
  obtain ⟨⟨hx, hb, hml, hown, hts⟩, hret, hlk, hnm, hemp⟩ := id B
  have hl : lv_has ls 3 [(0, .ref fb), (1, .int x), (2, .int y)] := hl
  refine lv_iload_n hx hb d_FB_pool_0 rfl (lv_at hl 1 rfl) ?_
  refine lv_iconst (v := 1) hx hb d_FB_pool_1 (by decide) ?_
  refine lv_iconst (v := 2) hx hb d_FB_pool_2 (by decide) ?_
  have hPc := hP.sub (ws' := []) [] rfl
  have hDc := hD.sub (ws' := []) [] (by decide) rfl
  have hKc := hK.sub (tys' := []) [] rfl
  refine xgi (wsC := []) (wr := [(fb, .inr (5, [.ref di, .ref gr, .ref re, .ref rl, .ref bu, .ref de])), (bu, .inr (0, [.ref bs, .int 0, .int 0, .int 0])), (de, .inl (cI, 3, .inl (fun _ => 1)))]) (va_runS (As := [.int x, .int 1, .int 2]) (rest := []) ⟨hx, hb, hml, hown, hts⟩ (c_FB_isIn l  D x 1 2 _ ) ⟨(callB_of 3 hts (x_good k_FB_isIn) rfl rfl rfl (hts _ (List.mem_cons_of_mem _ tw_1)) (hts _ (List.mem_cons_of_mem _ tw_245)) (by decide +kernel) ⟨Nat.le_of_ble_eq_true rfl, Nat.le_of_ble_eq_true rfl⟩), (hts _ (List.mem_cons_of_mem _ tw_226))⟩ (xP_S hPc hKc hDc hAm hTh hAs hS) rfl rfl hl.1 rfl (lv_room (Nat.le_of_ble_eq_true rfl)) d_FB_pool_3 ⟨Nat.le_of_ble_eq_true rfl, Nat.le_of_ble_eq_true rfl⟩) hP hD hK hS hA [] [0, 1, 2] rfl rfl (by decide) (by decide) (fun r1 _ H locs er1 hP hD hK hS => ?_)
  have er1 : r1 = xIn x 1 2 := er1
  subst er1
  have hK : va_K D cl [(cI, .int)] s := hK
  have hP : va_P D cl [(fb, .inr (5, [.ref di, .ref gr, .ref re, .ref rl, .ref bu, .ref de])), (bu, .inr (0, [.ref bs, .int 0, .int 0, .int 0])), (de, .inl (cI, 3, .inl (fun _ => 1)))] H := hP
  have hD : va_D A [(fb, .inr (5, [.ref di, .ref gr, .ref re, .ref rl, .ref bu, .ref de])), (bu, .inr (0, [.ref bs, .int 0, .int 0, .int 0])), (de, .inl (cI, 3, .inl (fun _ => 1)))] := hD
  refine lv_if_eq (tgt := 18) hx hb d_FB_pool_6 (by decide) (fun b6 => ?_) (fun b6 => ?_)
  · first | exact absurd b6 (xne1 h.1) | exact absurd b15 (xne1 h.2)
  · refine lv_iload_n hx hb d_FB_pool_9 rfl (lv_at hl 2 rfl) ?_
    refine lv_iconst (v := 1) hx hb d_FB_pool_10 (by decide) ?_
    refine lv_iconst (v := 4) hx hb d_FB_pool_11 (by decide) ?_
    have hPc := hP.sub (ws' := []) [] rfl
    have hDc := hD.sub (ws' := []) [] (by decide) rfl
    have hKc := hK.sub (tys' := []) [] rfl
    refine xgi (wsC := []) (wr := [(fb, .inr (5, [.ref di, .ref gr, .ref re, .ref rl, .ref bu, .ref de])), (bu, .inr (0, [.ref bs, .int 0, .int 0, .int 0])), (de, .inl (cI, 3, .inl (fun _ => 1)))]) (va_runS (As := [.int y, .int 1, .int 4]) (rest := []) ⟨hx, hb, hml, hown, hts⟩ (c_FB_isIn l  D y 1 4 _ ) ⟨(callB_of 3 hts (x_good k_FB_isIn) rfl rfl rfl (hts _ (List.mem_cons_of_mem _ tw_1)) (hts _ (List.mem_cons_of_mem _ tw_245)) (by decide +kernel) ⟨Nat.le_of_ble_eq_true rfl, Nat.le_of_ble_eq_true rfl⟩), (hts _ (List.mem_cons_of_mem _ tw_226))⟩ (xP_S hPc hKc hDc hAm hTh hAs hS) rfl rfl hl.1 rfl (lv_room (Nat.le_of_ble_eq_true rfl)) d_FB_pool_12 ⟨Nat.le_of_ble_eq_true rfl, Nat.le_of_ble_eq_true rfl⟩) hP hD hK hS hA [] [0, 1, 2] rfl rfl (by decide) (by decide) (fun r2 _ H locs er2 hP hD hK hS => ?_)
    have er2 : r2 = xIn y 1 4 := er2
    subst er2
    have hK : va_K D cl [(cI, .int)] s := hK
    have hP : va_P D cl [(fb, .inr (5, [.ref di, .ref gr, .ref re, .ref rl, .ref bu, .ref de])), (bu, .inr (0, [.ref bs, .int 0, .int 0, .int 0])), (de, .inl (cI, 3, .inl (fun _ => 1)))] H := hP
    have hD : va_D A [(fb, .inr (5, [.ref di, .ref gr, .ref re, .ref rl, .ref bu, .ref de])), (bu, .inr (0, [.ref bs, .int 0, .int 0, .int 0])), (de, .inl (cI, 3, .inl (fun _ => 1)))] := hD
    refine lv_if_ne (tgt := 28) hx hb d_FB_pool_15 (by decide) (fun b15 => ?_) (fun b15 => ?_)
    · refine lv_aload_n hx hb d_FB_pool_28 rfl (lv_at hl 0 rfl) ?_
      have hPc := hP.sub (ws' := [(fb, .inr (5, [.ref di, .ref gr, .ref re, .ref rl, .ref bu, .ref de])), (bu, .inr (0, [.ref bs, .int 0, .int 0, .int 0]))]) [0, 1] rfl
      have hDc := hD.sub (ws' := [(fb, .inr (5, [.ref di, .ref gr, .ref re, .ref rl, .ref bu, .ref de])), (bu, .inr (0, [.ref bs, .int 0, .int 0, .int 0]))]) [0, 1] (by decide) rfl
      have hKc := hK.sub (tys' := []) [] rfl
      refine xgv (wsC := [(fb, .inr (5, [.ref di, .ref gr, .ref re, .ref rl, .ref bu, .ref de])), (bu, .inr (0, [.ref bs, .int 0, .int 0, .int 0]))]) (wr := [(de, .inl (cI, 3, .inl (fun _ => 1)))]) (va_runV (As := []) (rest := []) ⟨hx, hb, hml, hown, hts⟩ (c_FB_refuseUnderWay l  D fb bu di gr re rl de bs _ ) ⟨(callB_of 0 hts (x_good k_FB_refuseUnderWay) rfl rfl rfl (hts _ (List.mem_cons_of_mem _ tw_1)) (hts _ (List.mem_cons_of_mem _ tw_392)) (by decide +kernel) ⟨Nat.le_of_ble_eq_true rfl, Nat.le_of_ble_eq_true rfl⟩), (hts _ (List.mem_cons_of_mem _ tw_394)), (hts _ (List.mem_cons_of_mem _ (x_sel 19 rfl)))⟩ (xP_V (va_recv (ci := 5) (q0 := 0) hK hP rfl rfl) hPc hKc hDc hAm hTh hAs hS) rfl rfl hl.1 rfl (lv_room (Nat.le_of_ble_eq_true rfl)) d_FB_pool_29 ⟨Nat.le_of_ble_eq_true rfl, Nat.le_of_ble_eq_true rfl⟩) hP hD hK hS hA [0, 1] [2] rfl rfl (by decide) (by decide) (fun _ H locs _ hP hD hK hS => ?_)
      have hK : va_K D cl [(cI, .int)] s := hK
      have hP : va_P D cl [(de, .inl (cI, 3, .inl (fun _ => 1))), (fb, .inr (5, [.ref di, .ref gr, .ref re, .ref rl, .ref bu, .ref de])), (bu, .inr (0, [.ref bs, .int 0, .int 0, .int 0]))] H := hP
      have hD : va_D A [(de, .inl (cI, 3, .inl (fun _ => 1))), (fb, .inr (5, [.ref di, .ref gr, .ref re, .ref rl, .ref bu, .ref de])), (bu, .inr (0, [.ref bs, .int 0, .int 0, .int 0]))] := hD
      refine lv_aload_n hx hb d_FB_pool_32 rfl (lv_at hl 0 rfl) ?_
      refine va_get (D := D) (ci := 5) (v := .ref de) (C := R_FB) (T := F_FB) (N := 6) hx hb hts (fun w h => List.mem_cons_of_mem _ (u_FB w h)) hown hK hP 1 rfl rfl 5 (by decide) (hts _ (List.mem_cons_of_mem _ tw_151)) (fun _ h9 => h9) rfl d_FB_pool_33 ?_
      refine lv_iload_n hx hb d_FB_pool_36 rfl (lv_at hl 1 rfl) ?_
      refine lv_iload_n hx hb d_FB_pool_37 rfl (lv_at hl 2 rfl) ?_
      refine va_iast hx hb hK hP hD hS 0 0 rfl rfl (xIn_in2 h.1 (by decide) (by decide)) d_FB_pool_38 (fun H locs hP hD hS => ?_)
      have hP : va_P D cl [(de, .inl (cI, 3, .inl (upd (fun _ => 1) x.toNatClampNeg y))), (fb, .inr (5, [.ref di, .ref gr, .ref re, .ref rl, .ref bu, .ref de])), (bu, .inr (0, [.ref bs, .int 0, .int 0, .int 0]))] H := hP
      have hD : va_D A [(de, .inl (cI, 3, .inl (upd (fun _ => 1) x.toNatClampNeg y))), (fb, .inr (5, [.ref di, .ref gr, .ref re, .ref rl, .ref bu, .ref de])), (bu, .inr (0, [.ref bs, .int 0, .int 0, .int 0]))] := hD
      exact xrv () B d_FB_pool_39 (trivial) (hP.sub (ws' := []) [] rfl) (hK.sub (tys' := []) [] rfl) (hD.sub (ws' := []) [] (by decide) rfl) hS (Nat.le_of_ble_eq_true rfl) (Nat.le_of_ble_eq_true rfl)
    · first | exact absurd b6 (xne1 h.1) | exact absurd b15 (xne1 h.2)
theorem d_FB_pool_18 : decode b_FB_pool 18 = .ok (.new 65, 3) := by decide +kernel
theorem d_FB_pool_21 : decode b_FB_pool 21 = .ok (.dup, 1) := by decide +kernel
theorem d_FB_pool_22 : decode b_FB_pool 22 = .ok (.ldc 133, 2) := by decide +kernel
theorem d_FB_pool_24 : decode b_FB_pool 24 = .ok (.invokespecial 69, 3) := by decide +kernel
theorem d_FB_pool_27 : decode b_FB_pool 27 = .ok (.athrow, 1) := by decide +kernel
set_option maxRecDepth 20000 in
set_option maxHeartbeats 4000000 in
theorem c_FB_pool_t (l : Launch) (hfl : l.flags = pinnedFlags ++ [noTraceFlag]) (D : va_G) (fb : Nat) (bu : Nat) (de : Nat) (di : Nat) (gr : Nat) (re : Nat) (rl : Nat) (bs : Nat) (cI : ClassId) (x : Int32) (y : Int32) (sz : Nat) (h : ¬ (xIn x 1 2 = 1 ∧ xIn y 1 4 = 1)) : xMt l y_FB_pool w_FB_pool { frames := 7, cells := 1, slots := 6, locals := 110 } D cl [.ref fb, .int x, .int y] sz [(cI, .int)] [(fb, .inr (5, [.ref di, .ref gr, .ref re, .ref rl, .ref bu, .ref de])), (bu, .inr (0, [.ref bs, .int 0, .int 0, .int 0])), (de, .inl (cI, 3, .inl (fun _ => 1)))] "java/lang/IllegalArgumentException" := by
  refine xMt_of (by decide +kernel) rfl (Nat.le_of_ble_eq_true rfl) ?_
  intro p e s m args below meth c ls A B hAe hA hsz hP hK hD hS hAm hTh hAs hl
  obtain ⟨⟨hx, hb, hml, hown, hts⟩, hret, hlk, hnm, hemp⟩ := id B
  have hl : lv_has ls 3 [(0, .ref fb), (1, .int x), (2, .int y)] := hl
  refine lv_iload_n hx hb d_FB_pool_0 rfl (lv_at hl 1 rfl) ?_
  refine lv_iconst (v := 1) hx hb d_FB_pool_1 (by decide) ?_
  refine lv_iconst (v := 2) hx hb d_FB_pool_2 (by decide) ?_
  have hPc := hP.sub (ws' := []) [] rfl
  have hDc := hD.sub (ws' := []) [] (by decide) rfl
  have hKc := hK.sub (tys' := []) [] rfl
  refine xgi (wsC := []) (wr := [(fb, .inr (5, [.ref di, .ref gr, .ref re, .ref rl, .ref bu, .ref de])), (bu, .inr (0, [.ref bs, .int 0, .int 0, .int 0])), (de, .inl (cI, 3, .inl (fun _ => 1)))]) (va_runS (As := [.int x, .int 1, .int 2]) (rest := []) ⟨hx, hb, hml, hown, hts⟩ (c_FB_isIn l  D x 1 2 _ ) ⟨(callB_of 3 hts (x_good k_FB_isIn) rfl rfl rfl (hts _ (List.mem_cons_of_mem _ tw_1)) (hts _ (List.mem_cons_of_mem _ tw_245)) (by decide +kernel) ⟨Nat.le_of_ble_eq_true rfl, Nat.le_of_ble_eq_true rfl⟩), (hts _ (List.mem_cons_of_mem _ tw_226))⟩ (xP_S hPc hKc hDc hAm hTh hAs hS) rfl rfl hl.1 rfl (lv_room (Nat.le_of_ble_eq_true rfl)) d_FB_pool_3 ⟨Nat.le_of_ble_eq_true rfl, Nat.le_of_ble_eq_true rfl⟩) hP hD hK hS hA [] [0, 1, 2] rfl rfl (by decide) (by decide) (fun r1 _ H locs er1 hP hD hK hS => ?_)
  have er1 : r1 = xIn x 1 2 := er1
  subst er1
  have hK : va_K D cl [(cI, .int)] s := hK
  have hP : va_P D cl [(fb, .inr (5, [.ref di, .ref gr, .ref re, .ref rl, .ref bu, .ref de])), (bu, .inr (0, [.ref bs, .int 0, .int 0, .int 0])), (de, .inl (cI, 3, .inl (fun _ => 1)))] H := hP
  have hD : va_D A [(fb, .inr (5, [.ref di, .ref gr, .ref re, .ref rl, .ref bu, .ref de])), (bu, .inr (0, [.ref bs, .int 0, .int 0, .int 0])), (de, .inl (cI, 3, .inl (fun _ => 1)))] := hD
  refine lv_if_eq (tgt := 18) hx hb d_FB_pool_6 (by decide) (fun b6 => ?_) (fun b6 => ?_)
  · obtain ⟨qz, hZ⟩ := hAm.2.1 _ (List.mem_of_getElem? (i := 8) rfl)
    exact xt_throw hx hb (hml.trans hl.1.symm) hfl hlk hemp (names := ["java/lang/RuntimeException", "java/lang/Exception"]) hown (hts _ (List.mem_cons_of_mem _ tw_249)) (hts _ (List.mem_cons_of_mem _ tw_250)) (hts _ (List.mem_cons_of_mem _ tw_12)) (by decide +kernel) (by decide +kernel) (xOwn own_IAE hts hAm hTh) hZ hS hAs (Nat.le_of_ble_eq_true rfl) (Nat.le_of_ble_eq_true rfl) (Nat.le_of_ble_eq_true rfl) (Nat.le_of_ble_eq_true rfl) (by decide) (Nat.le_of_ble_eq_true rfl) d_FB_pool_18 d_FB_pool_21 d_FB_pool_22 d_FB_pool_24 d_FB_pool_27
  · refine lv_iload_n hx hb d_FB_pool_9 rfl (lv_at hl 2 rfl) ?_
    refine lv_iconst (v := 1) hx hb d_FB_pool_10 (by decide) ?_
    refine lv_iconst (v := 4) hx hb d_FB_pool_11 (by decide) ?_
    have hPc := hP.sub (ws' := []) [] rfl
    have hDc := hD.sub (ws' := []) [] (by decide) rfl
    have hKc := hK.sub (tys' := []) [] rfl
    refine xgi (wsC := []) (wr := [(fb, .inr (5, [.ref di, .ref gr, .ref re, .ref rl, .ref bu, .ref de])), (bu, .inr (0, [.ref bs, .int 0, .int 0, .int 0])), (de, .inl (cI, 3, .inl (fun _ => 1)))]) (va_runS (As := [.int y, .int 1, .int 4]) (rest := []) ⟨hx, hb, hml, hown, hts⟩ (c_FB_isIn l  D y 1 4 _ ) ⟨(callB_of 3 hts (x_good k_FB_isIn) rfl rfl rfl (hts _ (List.mem_cons_of_mem _ tw_1)) (hts _ (List.mem_cons_of_mem _ tw_245)) (by decide +kernel) ⟨Nat.le_of_ble_eq_true rfl, Nat.le_of_ble_eq_true rfl⟩), (hts _ (List.mem_cons_of_mem _ tw_226))⟩ (xP_S hPc hKc hDc hAm hTh hAs hS) rfl rfl hl.1 rfl (lv_room (Nat.le_of_ble_eq_true rfl)) d_FB_pool_12 ⟨Nat.le_of_ble_eq_true rfl, Nat.le_of_ble_eq_true rfl⟩) hP hD hK hS hA [] [0, 1, 2] rfl rfl (by decide) (by decide) (fun r2 _ H locs er2 hP hD hK hS => ?_)
    have er2 : r2 = xIn y 1 4 := er2
    subst er2
    have hK : va_K D cl [(cI, .int)] s := hK
    have hP : va_P D cl [(fb, .inr (5, [.ref di, .ref gr, .ref re, .ref rl, .ref bu, .ref de])), (bu, .inr (0, [.ref bs, .int 0, .int 0, .int 0])), (de, .inl (cI, 3, .inl (fun _ => 1)))] H := hP
    have hD : va_D A [(fb, .inr (5, [.ref di, .ref gr, .ref re, .ref rl, .ref bu, .ref de])), (bu, .inr (0, [.ref bs, .int 0, .int 0, .int 0])), (de, .inl (cI, 3, .inl (fun _ => 1)))] := hD
    refine lv_if_ne (tgt := 28) hx hb d_FB_pool_15 (by decide) (fun b15 => ?_) (fun b15 => ?_)
    · exact absurd ⟨xne0 (xIn_bin _ _ _) b6, xne0 (xIn_bin _ _ _) b15⟩ h
    · obtain ⟨qz, hZ⟩ := hAm.2.1 _ (List.mem_of_getElem? (i := 8) rfl)
      exact xt_throw hx hb (hml.trans hl.1.symm) hfl hlk hemp (names := ["java/lang/RuntimeException", "java/lang/Exception"]) hown (hts _ (List.mem_cons_of_mem _ tw_249)) (hts _ (List.mem_cons_of_mem _ tw_250)) (hts _ (List.mem_cons_of_mem _ tw_12)) (by decide +kernel) (by decide +kernel) (xOwn own_IAE hts hAm hTh) hZ hS hAs (Nat.le_of_ble_eq_true rfl) (Nat.le_of_ble_eq_true rfl) (Nat.le_of_ble_eq_true rfl) (Nat.le_of_ble_eq_true rfl) (by decide) (Nat.le_of_ble_eq_true rfl) d_FB_pool_18 d_FB_pool_21 d_FB_pool_22 d_FB_pool_24 d_FB_pool_27
theorem d_FB_write_0 : decode b_FB_write 0 = .ok (.iload_n 1, 1) := by decide +kernel
theorem d_FB_write_1 : decode b_FB_write 1 = .ok (.invokestatic 92, 3) := by decide +kernel
theorem d_FB_write_4 : decode b_FB_write 4 = .ok (.ifCond .eq (17), 3) := by decide +kernel
theorem d_FB_write_7 : decode b_FB_write 7 = .ok (.aload_n 0, 1) := by decide +kernel
theorem d_FB_write_8 : decode b_FB_write 8 = .ok (.getfield 19, 3) := by decide +kernel
theorem d_FB_write_11 : decode b_FB_write 11 = .ok (.invokevirtual 135, 3) := by decide +kernel
theorem d_FB_write_14 : decode b_FB_write 14 = .ok (.iload_n 1, 1) := by decide +kernel
theorem d_FB_write_15 : decode b_FB_write 15 = .ok (.invokestatic 116, 3) := by decide +kernel
theorem d_FB_write_18 : decode b_FB_write 18 = .ok (.ifCond .eq (13), 3) := by decide +kernel
theorem d_FB_write_31 : decode b_FB_write 31 = .ok (.aload_n 0, 1) := by decide +kernel
theorem d_FB_write_32 : decode b_FB_write 32 = .ok (.invokevirtual 130, 3) := by decide +kernel
theorem d_FB_write_35 : decode b_FB_write 35 = .ok (.aload_n 0, 1) := by decide +kernel
theorem d_FB_write_36 : decode b_FB_write 36 = .ok (.getfield 12, 3) := by decide +kernel
theorem d_FB_write_39 : decode b_FB_write 39 = .ok (.iload_n 1, 1) := by decide +kernel
theorem d_FB_write_40 : decode b_FB_write 40 = .ok (.iload_n 2, 1) := by decide +kernel
theorem d_FB_write_41 : decode b_FB_write 41 = .ok (.invokevirtual 140, 3) := by decide +kernel
theorem d_FB_write_44 : decode b_FB_write 44 = .ok (.return_, 1) := by decide +kernel
set_option maxRecDepth 20000 in
set_option maxHeartbeats 4000000 in
theorem c_FB_write (l : Launch) (D : va_G) (fb : Nat) (gr : Nat) (bu : Nat) (di : Nat) (ct : Nat) (ti : Nat) (re : Nat) (rl : Nat) (de : Nat) (gc : Nat) (gf : Nat) (gp : Nat) (gb : Nat) (gl : Nat) (bs : Nat) (cI : ClassId) (x : Int32) (y : Int32) (sz : Nat) (h : xIn x 0 23 = 1) : xMv l y_FB_write w_FB_write { frames := 2, cells := 0, slots := 0, locals := 60 } D cl [.ref fb, .int x, .int y] sz [(cI, .int)] [(fb, .inr (5, [.ref di, .ref gr, .ref re, .ref rl, .ref bu, .ref de])), (gr, .inr (2, [.ref gc, .ref gf, .ref gp, .ref gb, .ref gl, .int 0])), (bu, .inr (0, [.ref bs, .int 0, .int 0, .int 0])), (di, .inr (1, [.ref ct, .ref ti, .int 0, .int 0])), (ct, .inl (cI, 24, .inl (fun _ => 0))), (ti, .inl (cI, 24, .inl (fun _ => 0)))] (fun (_ : Unit) => True) (fun _ => []) (fun _ => []) := by
  refine xMv_of (by decide +kernel) rfl (Nat.le_of_ble_eq_true rfl) ?_
  intro p e s m args below meth c ls A B hAe hA hsz hP hK hD hS hAm hTh hAs hl
  obtain ⟨⟨hx, hb, hml, hown, hts⟩, hret, hlk, hnm, hemp⟩ := id B
  have hl : lv_has ls 3 [(0, .ref fb), (1, .int x), (2, .int y)] := hl
  refine lv_iload_n hx hb d_FB_write_0 rfl (lv_at hl 1 rfl) ?_
  have hPc := hP.sub (ws' := []) [] rfl
  have hDc := hD.sub (ws' := []) [] (by decide) rfl
  have hKc := hK.sub (tys' := []) [] rfl
  refine xgi (wsC := []) (wr := [(fb, .inr (5, [.ref di, .ref gr, .ref re, .ref rl, .ref bu, .ref de])), (gr, .inr (2, [.ref gc, .ref gf, .ref gp, .ref gb, .ref gl, .int 0])), (bu, .inr (0, [.ref bs, .int 0, .int 0, .int 0])), (di, .inr (1, [.ref ct, .ref ti, .int 0, .int 0])), (ct, .inl (cI, 24, .inl (fun _ => 0))), (ti, .inl (cI, 24, .inl (fun _ => 0)))]) (va_runS (As := [.int x]) (rest := []) ⟨hx, hb, hml, hown, hts⟩ (c_FB_isFile l  D x _ ) ⟨(callB_of 1 hts (x_good k_FB_isFile) rfl rfl rfl (hts _ (List.mem_cons_of_mem _ tw_1)) (hts _ (List.mem_cons_of_mem _ tw_350)) (by decide +kernel) ⟨Nat.le_of_ble_eq_true rfl, Nat.le_of_ble_eq_true rfl⟩), (hts _ (List.mem_cons_of_mem _ tw_351))⟩ (xP_S hPc hKc hDc hAm hTh hAs hS) rfl rfl hl.1 rfl (lv_room (Nat.le_of_ble_eq_true rfl)) d_FB_write_1 ⟨Nat.le_of_ble_eq_true rfl, Nat.le_of_ble_eq_true rfl⟩) hP hD hK hS hA [] [0, 1, 2, 3, 4, 5] rfl rfl (by decide) (by decide) (fun r1 _ H locs er1 hP hD hK hS => ?_)
  have er1 : r1 = xIn x 0 23 := er1
  subst er1
  have hK : va_K D cl [(cI, .int)] s := hK
  have hP : va_P D cl [(fb, .inr (5, [.ref di, .ref gr, .ref re, .ref rl, .ref bu, .ref de])), (gr, .inr (2, [.ref gc, .ref gf, .ref gp, .ref gb, .ref gl, .int 0])), (bu, .inr (0, [.ref bs, .int 0, .int 0, .int 0])), (di, .inr (1, [.ref ct, .ref ti, .int 0, .int 0])), (ct, .inl (cI, 24, .inl (fun _ => 0))), (ti, .inl (cI, 24, .inl (fun _ => 0)))] H := hP
  have hD : va_D A [(fb, .inr (5, [.ref di, .ref gr, .ref re, .ref rl, .ref bu, .ref de])), (gr, .inr (2, [.ref gc, .ref gf, .ref gp, .ref gb, .ref gl, .int 0])), (bu, .inr (0, [.ref bs, .int 0, .int 0, .int 0])), (di, .inr (1, [.ref ct, .ref ti, .int 0, .int 0])), (ct, .inl (cI, 24, .inl (fun _ => 0))), (ti, .inl (cI, 24, .inl (fun _ => 0)))] := hD
  refine lv_if_eq (tgt := 21) hx hb d_FB_write_4 (by decide) (fun b4 => ?_) (fun b4 => ?_)
  · first | exact absurd b4 (xne1 h)
  · refine lv_aload_n hx hb d_FB_write_7 rfl (lv_at hl 0 rfl) ?_
    refine va_get (D := D) (ci := 5) (v := .ref gr) (C := R_FB) (T := F_FB) (N := 6) hx hb hts (fun w h => List.mem_cons_of_mem _ (u_FB w h)) hown hK hP 0 rfl rfl 1 (by decide) (hts _ (List.mem_cons_of_mem _ tw_147)) (fun _ h9 => h9) rfl d_FB_write_8 ?_
    have hPc := hP.sub (ws' := [(gr, .inr (2, [.ref gc, .ref gf, .ref gp, .ref gb, .ref gl, .int 0]))]) [1] rfl
    have hDc := hD.sub (ws' := [(gr, .inr (2, [.ref gc, .ref gf, .ref gp, .ref gb, .ref gl, .int 0]))]) [1] (by decide) rfl
    have hKc := hK.sub (tys' := []) [] rfl
    refine xgi (wsC := [(gr, .inr (2, [.ref gc, .ref gf, .ref gp, .ref gb, .ref gl, .int 0]))]) (wr := [(fb, .inr (5, [.ref di, .ref gr, .ref re, .ref rl, .ref bu, .ref de])), (bu, .inr (0, [.ref bs, .int 0, .int 0, .int 0])), (di, .inr (1, [.ref ct, .ref ti, .int 0, .int 0])), (ct, .inl (cI, 24, .inl (fun _ => 0))), (ti, .inl (cI, 24, .inl (fun _ => 0)))]) (va_runVN (As := []) (rest := []) ⟨hx, hb, hml, hown, hts⟩ (c_Gr_madeByPhonies l  D gr gc gf gp gb gl _ ) ⟨(va_cnB 0 hts (x_good k_Gr_madeByPhonies) rfl rfl rfl (hAm.1 _ (List.mem_of_getElem? (i := 44) rfl)) (hts _ (List.mem_cons_of_mem _ tw_3)) (by decide +kernel) ⟨Nat.le_of_ble_eq_true rfl, Nat.le_of_ble_eq_true rfl⟩), (hts _ (List.mem_cons_of_mem _ tw_414)), (hts _ (List.mem_cons_of_mem _ (x_sel 20 rfl)))⟩ (xP_V (va_recv (ci := 2) (q0 := 1) hK hP rfl rfl) hPc hKc hDc hAm hTh hAs hS) rfl rfl hl.1 rfl (lv_room (Nat.le_of_ble_eq_true rfl)) d_FB_write_11 ⟨Nat.le_of_ble_eq_true rfl, Nat.le_of_ble_eq_true rfl⟩) hP hD hK hS hA [1] [0, 2, 3, 4, 5] rfl rfl (by decide) (by decide) (fun r2 _ H locs er2 hP hD hK hS => ?_)
    have er2 : r2 = 0 := er2
    subst er2
    have hK : va_K D cl [(cI, .int)] s := hK
    have hP : va_P D cl [(fb, .inr (5, [.ref di, .ref gr, .ref re, .ref rl, .ref bu, .ref de])), (bu, .inr (0, [.ref bs, .int 0, .int 0, .int 0])), (di, .inr (1, [.ref ct, .ref ti, .int 0, .int 0])), (ct, .inl (cI, 24, .inl (fun _ => 0))), (ti, .inl (cI, 24, .inl (fun _ => 0))), (gr, .inr (2, [.ref gc, .ref gf, .ref gp, .ref gb, .ref gl, .int 0]))] H := hP
    have hD : va_D A [(fb, .inr (5, [.ref di, .ref gr, .ref re, .ref rl, .ref bu, .ref de])), (bu, .inr (0, [.ref bs, .int 0, .int 0, .int 0])), (di, .inr (1, [.ref ct, .ref ti, .int 0, .int 0])), (ct, .inl (cI, 24, .inl (fun _ => 0))), (ti, .inl (cI, 24, .inl (fun _ => 0))), (gr, .inr (2, [.ref gc, .ref gf, .ref gp, .ref gb, .ref gl, .int 0]))] := hD
    refine lv_iload_n hx hb d_FB_write_14 rfl (lv_at hl 1 rfl) ?_
    have hPc := hP.sub (ws' := []) [] rfl
    have hDc := hD.sub (ws' := []) [] (by decide) rfl
    have hKc := hK.sub (tys' := []) [] rfl
    refine xgi (wsC := []) (wr := [(fb, .inr (5, [.ref di, .ref gr, .ref re, .ref rl, .ref bu, .ref de])), (bu, .inr (0, [.ref bs, .int 0, .int 0, .int 0])), (di, .inr (1, [.ref ct, .ref ti, .int 0, .int 0])), (ct, .inl (cI, 24, .inl (fun _ => 0))), (ti, .inl (cI, 24, .inl (fun _ => 0))), (gr, .inr (2, [.ref gc, .ref gf, .ref gp, .ref gb, .ref gl, .int 0]))]) (va_runS (As := [.int 0, .int x]) (rest := []) ⟨hx, hb, hml, hown, hts⟩ (c_FB_has l  D x _ ) ⟨(callB_of 2 hts (x_good k_FB_has) rfl rfl rfl (hts _ (List.mem_cons_of_mem _ tw_1)) (hts _ (List.mem_cons_of_mem _ tw_362)) (by decide +kernel) ⟨Nat.le_of_ble_eq_true rfl, Nat.le_of_ble_eq_true rfl⟩), (hts _ (List.mem_cons_of_mem _ tw_363))⟩ (xP_S hPc hKc hDc hAm hTh hAs hS) rfl rfl hl.1 rfl (lv_room (Nat.le_of_ble_eq_true rfl)) d_FB_write_15 ⟨Nat.le_of_ble_eq_true rfl, Nat.le_of_ble_eq_true rfl⟩) hP hD hK hS hA [] [0, 1, 2, 3, 4, 5] rfl rfl (by decide) (by decide) (fun r3 _ H locs er3 hP hD hK hS => ?_)
    have er3 : r3 = 0 := er3
    subst er3
    have hK : va_K D cl [(cI, .int)] s := hK
    have hP : va_P D cl [(fb, .inr (5, [.ref di, .ref gr, .ref re, .ref rl, .ref bu, .ref de])), (bu, .inr (0, [.ref bs, .int 0, .int 0, .int 0])), (di, .inr (1, [.ref ct, .ref ti, .int 0, .int 0])), (ct, .inl (cI, 24, .inl (fun _ => 0))), (ti, .inl (cI, 24, .inl (fun _ => 0))), (gr, .inr (2, [.ref gc, .ref gf, .ref gp, .ref gb, .ref gl, .int 0]))] H := hP
    have hD : va_D A [(fb, .inr (5, [.ref di, .ref gr, .ref re, .ref rl, .ref bu, .ref de])), (bu, .inr (0, [.ref bs, .int 0, .int 0, .int 0])), (di, .inr (1, [.ref ct, .ref ti, .int 0, .int 0])), (ct, .inl (cI, 24, .inl (fun _ => 0))), (ti, .inl (cI, 24, .inl (fun _ => 0))), (gr, .inr (2, [.ref gc, .ref gf, .ref gp, .ref gb, .ref gl, .int 0]))] := hD
    refine lv_if_eq (tgt := 31) hx hb d_FB_write_18 (by decide) (fun b18 => ?_) (fun b18 => absurd b18 (by decide))
    refine lv_aload_n hx hb d_FB_write_31 rfl (lv_at hl 0 rfl) ?_
    have hPc := hP.sub (ws' := [(fb, .inr (5, [.ref di, .ref gr, .ref re, .ref rl, .ref bu, .ref de])), (bu, .inr (0, [.ref bs, .int 0, .int 0, .int 0]))]) [0, 1] rfl
    have hDc := hD.sub (ws' := [(fb, .inr (5, [.ref di, .ref gr, .ref re, .ref rl, .ref bu, .ref de])), (bu, .inr (0, [.ref bs, .int 0, .int 0, .int 0]))]) [0, 1] (by decide) rfl
    have hKc := hK.sub (tys' := []) [] rfl
    refine xgv (wsC := [(fb, .inr (5, [.ref di, .ref gr, .ref re, .ref rl, .ref bu, .ref de])), (bu, .inr (0, [.ref bs, .int 0, .int 0, .int 0]))]) (wr := [(di, .inr (1, [.ref ct, .ref ti, .int 0, .int 0])), (ct, .inl (cI, 24, .inl (fun _ => 0))), (ti, .inl (cI, 24, .inl (fun _ => 0))), (gr, .inr (2, [.ref gc, .ref gf, .ref gp, .ref gb, .ref gl, .int 0]))]) (va_runV (As := []) (rest := []) ⟨hx, hb, hml, hown, hts⟩ (c_FB_refuseUnderWay l  D fb bu di gr re rl de bs _ ) ⟨(callB_of 0 hts (x_good k_FB_refuseUnderWay) rfl rfl rfl (hts _ (List.mem_cons_of_mem _ tw_1)) (hts _ (List.mem_cons_of_mem _ tw_392)) (by decide +kernel) ⟨Nat.le_of_ble_eq_true rfl, Nat.le_of_ble_eq_true rfl⟩), (hts _ (List.mem_cons_of_mem _ tw_394)), (hts _ (List.mem_cons_of_mem _ (x_sel 19 rfl)))⟩ (xP_V (va_recv (ci := 5) (q0 := 0) hK hP rfl rfl) hPc hKc hDc hAm hTh hAs hS) rfl rfl hl.1 rfl (lv_room (Nat.le_of_ble_eq_true rfl)) d_FB_write_32 ⟨Nat.le_of_ble_eq_true rfl, Nat.le_of_ble_eq_true rfl⟩) hP hD hK hS hA [0, 1] [2, 3, 4, 5] rfl rfl (by decide) (by decide) (fun _ H locs _ hP hD hK hS => ?_)
    have hK : va_K D cl [(cI, .int)] s := hK
    have hP : va_P D cl [(di, .inr (1, [.ref ct, .ref ti, .int 0, .int 0])), (ct, .inl (cI, 24, .inl (fun _ => 0))), (ti, .inl (cI, 24, .inl (fun _ => 0))), (gr, .inr (2, [.ref gc, .ref gf, .ref gp, .ref gb, .ref gl, .int 0])), (fb, .inr (5, [.ref di, .ref gr, .ref re, .ref rl, .ref bu, .ref de])), (bu, .inr (0, [.ref bs, .int 0, .int 0, .int 0]))] H := hP
    have hD : va_D A [(di, .inr (1, [.ref ct, .ref ti, .int 0, .int 0])), (ct, .inl (cI, 24, .inl (fun _ => 0))), (ti, .inl (cI, 24, .inl (fun _ => 0))), (gr, .inr (2, [.ref gc, .ref gf, .ref gp, .ref gb, .ref gl, .int 0])), (fb, .inr (5, [.ref di, .ref gr, .ref re, .ref rl, .ref bu, .ref de])), (bu, .inr (0, [.ref bs, .int 0, .int 0, .int 0]))] := hD
    refine lv_aload_n hx hb d_FB_write_35 rfl (lv_at hl 0 rfl) ?_
    refine va_get (D := D) (ci := 5) (v := .ref di) (C := R_FB) (T := F_FB) (N := 6) hx hb hts (fun w h => List.mem_cons_of_mem _ (u_FB w h)) hown hK hP 4 rfl rfl 0 (by decide) (hts _ (List.mem_cons_of_mem _ tw_146)) (fun _ h9 => h9) rfl d_FB_write_36 ?_
    refine lv_iload_n hx hb d_FB_write_39 rfl (lv_at hl 1 rfl) ?_
    refine lv_iload_n hx hb d_FB_write_40 rfl (lv_at hl 2 rfl) ?_
    have hPc := hP.sub (ws' := [(di, .inr (1, [.ref ct, .ref ti, .int 0, .int 0])), (ct, .inl (cI, 24, .inl (fun _ => 0))), (ti, .inl (cI, 24, .inl (fun _ => 0)))]) [0, 1, 2] rfl
    have hDc := hD.sub (ws' := [(di, .inr (1, [.ref ct, .ref ti, .int 0, .int 0])), (ct, .inl (cI, 24, .inl (fun _ => 0))), (ti, .inl (cI, 24, .inl (fun _ => 0)))]) [0, 1, 2] (by decide) rfl
    have hKc := hK.sub (tys' := [(cI, .int)]) [0] rfl
    refine xgv (wsC := [(di, .inr (1, [.ref ct, .ref ti, .int 0, .int 0])), (ct, .inl (cI, 24, .inl (fun _ => 0))), (ti, .inl (cI, 24, .inl (fun _ => 0)))]) (wr := [(gr, .inr (2, [.ref gc, .ref gf, .ref gp, .ref gb, .ref gl, .int 0])), (fb, .inr (5, [.ref di, .ref gr, .ref re, .ref rl, .ref bu, .ref de])), (bu, .inr (0, [.ref bs, .int 0, .int 0, .int 0]))]) (va_runVN (As := [.int x, .int y]) (rest := []) ⟨hx, hb, hml, hown, hts⟩ (c_Di_put l  D di ct ti cI x y _ h) ⟨(va_cnB 2 hts (x_good k_Di_put) rfl rfl rfl (hAm.1 _ (List.mem_of_getElem? (i := 45) rfl)) (hts _ (List.mem_cons_of_mem _ tw_2)) (by decide +kernel) ⟨Nat.le_of_ble_eq_true rfl, Nat.le_of_ble_eq_true rfl⟩), (hts _ (List.mem_cons_of_mem _ tw_419)), (hts _ (List.mem_cons_of_mem _ (x_sel 21 rfl)))⟩ (xP_V (va_recv (ci := 1) (q0 := 0) hK hP rfl rfl) hPc hKc hDc hAm hTh hAs hS) rfl rfl hl.1 rfl (lv_room (Nat.le_of_ble_eq_true rfl)) d_FB_write_41 ⟨Nat.le_of_ble_eq_true rfl, Nat.le_of_ble_eq_true rfl⟩) hP hD hK hS hA [0, 1, 2] [3, 4, 5] rfl rfl (by decide) (by decide) (fun _ H locs _ hP hD hK hS => ?_)
    have hK : va_K D cl [(cI, .int)] s := hK
    have hP : va_P D cl [(gr, .inr (2, [.ref gc, .ref gf, .ref gp, .ref gb, .ref gl, .int 0])), (fb, .inr (5, [.ref di, .ref gr, .ref re, .ref rl, .ref bu, .ref de])), (bu, .inr (0, [.ref bs, .int 0, .int 0, .int 0]))] H := hP
    have hD : va_D A [(gr, .inr (2, [.ref gc, .ref gf, .ref gp, .ref gb, .ref gl, .int 0])), (fb, .inr (5, [.ref di, .ref gr, .ref re, .ref rl, .ref bu, .ref de])), (bu, .inr (0, [.ref bs, .int 0, .int 0, .int 0]))] := hD
    exact xrv () B d_FB_write_44 (trivial) (hP.sub (ws' := []) [] rfl) (hK.sub (tys' := []) [] rfl) (hD.sub (ws' := []) [] (by decide) rfl) hS (Nat.le_of_ble_eq_true rfl) (Nat.le_of_ble_eq_true rfl)
theorem d_FB_write_21 : decode b_FB_write 21 = .ok (.new 65, 3) := by decide +kernel
theorem d_FB_write_24 : decode b_FB_write 24 = .ok (.dup, 1) := by decide +kernel
theorem d_FB_write_25 : decode b_FB_write 25 = .ok (.ldc 138, 2) := by decide +kernel
theorem d_FB_write_27 : decode b_FB_write 27 = .ok (.invokespecial 69, 3) := by decide +kernel
theorem d_FB_write_30 : decode b_FB_write 30 = .ok (.athrow, 1) := by decide +kernel
set_option maxRecDepth 20000 in
set_option maxHeartbeats 4000000 in
theorem c_FB_write_t (l : Launch) (hfl : l.flags = pinnedFlags ++ [noTraceFlag]) (D : va_G) (fb : Nat) (gr : Nat) (bu : Nat) (di : Nat) (ct : Nat) (ti : Nat) (re : Nat) (rl : Nat) (de : Nat) (gc : Nat) (gf : Nat) (gp : Nat) (gb : Nat) (gl : Nat) (bs : Nat) (cI : ClassId) (x : Int32) (y : Int32) (sz : Nat) (h : ¬ xIn x 0 23 = 1) : xMt l y_FB_write w_FB_write { frames := 7, cells := 1, slots := 6, locals := 110 } D cl [.ref fb, .int x, .int y] sz [(cI, .int)] [(fb, .inr (5, [.ref di, .ref gr, .ref re, .ref rl, .ref bu, .ref de])), (gr, .inr (2, [.ref gc, .ref gf, .ref gp, .ref gb, .ref gl, .int 0])), (bu, .inr (0, [.ref bs, .int 0, .int 0, .int 0])), (di, .inr (1, [.ref ct, .ref ti, .int 0, .int 0])), (ct, .inl (cI, 24, .inl (fun _ => 0))), (ti, .inl (cI, 24, .inl (fun _ => 0)))] "java/lang/IllegalArgumentException" := by
  refine xMt_of (by decide +kernel) rfl (Nat.le_of_ble_eq_true rfl) ?_
  intro p e s m args below meth c ls A B hAe hA hsz hP hK hD hS hAm hTh hAs hl
  obtain ⟨⟨hx, hb, hml, hown, hts⟩, hret, hlk, hnm, hemp⟩ := id B
  have hl : lv_has ls 3 [(0, .ref fb), (1, .int x), (2, .int y)] := hl
  refine lv_iload_n hx hb d_FB_write_0 rfl (lv_at hl 1 rfl) ?_
  have hPc := hP.sub (ws' := []) [] rfl
  have hDc := hD.sub (ws' := []) [] (by decide) rfl
  have hKc := hK.sub (tys' := []) [] rfl
  refine xgi (wsC := []) (wr := [(fb, .inr (5, [.ref di, .ref gr, .ref re, .ref rl, .ref bu, .ref de])), (gr, .inr (2, [.ref gc, .ref gf, .ref gp, .ref gb, .ref gl, .int 0])), (bu, .inr (0, [.ref bs, .int 0, .int 0, .int 0])), (di, .inr (1, [.ref ct, .ref ti, .int 0, .int 0])), (ct, .inl (cI, 24, .inl (fun _ => 0))), (ti, .inl (cI, 24, .inl (fun _ => 0)))]) (va_runS (As := [.int x]) (rest := []) ⟨hx, hb, hml, hown, hts⟩ (c_FB_isFile l  D x _ ) ⟨(callB_of 1 hts (x_good k_FB_isFile) rfl rfl rfl (hts _ (List.mem_cons_of_mem _ tw_1)) (hts _ (List.mem_cons_of_mem _ tw_350)) (by decide +kernel) ⟨Nat.le_of_ble_eq_true rfl, Nat.le_of_ble_eq_true rfl⟩), (hts _ (List.mem_cons_of_mem _ tw_351))⟩ (xP_S hPc hKc hDc hAm hTh hAs hS) rfl rfl hl.1 rfl (lv_room (Nat.le_of_ble_eq_true rfl)) d_FB_write_1 ⟨Nat.le_of_ble_eq_true rfl, Nat.le_of_ble_eq_true rfl⟩) hP hD hK hS hA [] [0, 1, 2, 3, 4, 5] rfl rfl (by decide) (by decide) (fun r1 _ H locs er1 hP hD hK hS => ?_)
  have er1 : r1 = xIn x 0 23 := er1
  subst er1
  have hK : va_K D cl [(cI, .int)] s := hK
  have hP : va_P D cl [(fb, .inr (5, [.ref di, .ref gr, .ref re, .ref rl, .ref bu, .ref de])), (gr, .inr (2, [.ref gc, .ref gf, .ref gp, .ref gb, .ref gl, .int 0])), (bu, .inr (0, [.ref bs, .int 0, .int 0, .int 0])), (di, .inr (1, [.ref ct, .ref ti, .int 0, .int 0])), (ct, .inl (cI, 24, .inl (fun _ => 0))), (ti, .inl (cI, 24, .inl (fun _ => 0)))] H := hP
  have hD : va_D A [(fb, .inr (5, [.ref di, .ref gr, .ref re, .ref rl, .ref bu, .ref de])), (gr, .inr (2, [.ref gc, .ref gf, .ref gp, .ref gb, .ref gl, .int 0])), (bu, .inr (0, [.ref bs, .int 0, .int 0, .int 0])), (di, .inr (1, [.ref ct, .ref ti, .int 0, .int 0])), (ct, .inl (cI, 24, .inl (fun _ => 0))), (ti, .inl (cI, 24, .inl (fun _ => 0)))] := hD
  refine lv_if_eq (tgt := 21) hx hb d_FB_write_4 (by decide) (fun b4 => ?_) (fun b4 => ?_)
  · obtain ⟨qz, hZ⟩ := hAm.2.1 _ (List.mem_of_getElem? (i := 9) rfl)
    exact xt_throw hx hb (hml.trans hl.1.symm) hfl hlk hemp (names := ["java/lang/RuntimeException", "java/lang/Exception"]) hown (hts _ (List.mem_cons_of_mem _ tw_249)) (hts _ (List.mem_cons_of_mem _ tw_250)) (hts _ (List.mem_cons_of_mem _ tw_12)) (by decide +kernel) (by decide +kernel) (xOwn own_IAE hts hAm hTh) hZ hS hAs (Nat.le_of_ble_eq_true rfl) (Nat.le_of_ble_eq_true rfl) (Nat.le_of_ble_eq_true rfl) (Nat.le_of_ble_eq_true rfl) (by decide) (Nat.le_of_ble_eq_true rfl) d_FB_write_21 d_FB_write_24 d_FB_write_25 d_FB_write_27 d_FB_write_30
  · exact absurd (xne0 (xIn_bin _ _ _) b4) h
theorem d_FB_remove_0 : decode b_FB_remove 0 = .ok (.iload_n 1, 1) := by decide +kernel
theorem d_FB_remove_1 : decode b_FB_remove 1 = .ok (.invokestatic 92, 3) := by decide +kernel
theorem d_FB_remove_4 : decode b_FB_remove 4 = .ok (.ifCond .ne (13), 3) := by decide +kernel
theorem d_FB_remove_7 : decode b_FB_remove 7 = .ok (.new 65, 3) := by decide +kernel
theorem d_FB_remove_10 : decode b_FB_remove 10 = .ok (.dup, 1) := by decide +kernel
theorem d_FB_remove_11 : decode b_FB_remove 11 = .ok (.ldc 144, 2) := by decide +kernel
theorem d_FB_remove_13 : decode b_FB_remove 13 = .ok (.invokespecial 69, 3) := by decide +kernel
theorem d_FB_remove_16 : decode b_FB_remove 16 = .ok (.athrow, 1) := by decide +kernel
set_option maxRecDepth 20000 in
set_option maxHeartbeats 4000000 in
theorem c_FB_remove_i (l : Launch) (hfl : l.flags = pinnedFlags ++ [noTraceFlag]) (D : va_G) (fb : Nat) (di : Nat) (gr : Nat) (re : Nat) (rl : Nat) (bu : Nat) (de : Nat) (ct : Nat) (ti : Nat) (x : Int32) (sz : Nat) (h : ¬ xIn x 0 23 = 1) : xMt l y_FB_remove w_FB_remove { frames := 7, cells := 1, slots := 6, locals := 110 } D cl [.ref fb, .int x] sz [] [(fb, .inr (5, [.ref di, .ref gr, .ref re, .ref rl, .ref bu, .ref de])), (di, .inr (1, [.ref ct, .ref ti, .int 0, .int 0]))] "java/lang/IllegalArgumentException" := by
  refine xMt_of (by decide +kernel) rfl (Nat.le_of_ble_eq_true rfl) ?_
  intro p e s m args below meth c ls A B hAe hA hsz hP hK hD hS hAm hTh hAs hl
  obtain ⟨⟨hx, hb, hml, hown, hts⟩, hret, hlk, hnm, hemp⟩ := id B
  have hl : lv_has ls 2 [(0, .ref fb), (1, .int x)] := hl
  refine lv_iload_n hx hb d_FB_remove_0 rfl (lv_at hl 1 rfl) ?_
  have hPc := hP.sub (ws' := []) [] rfl
  have hDc := hD.sub (ws' := []) [] (by decide) rfl
  have hKc := hK.sub (tys' := []) [] rfl
  refine xgi (wsC := []) (wr := [(fb, .inr (5, [.ref di, .ref gr, .ref re, .ref rl, .ref bu, .ref de])), (di, .inr (1, [.ref ct, .ref ti, .int 0, .int 0]))]) (va_runS (As := [.int x]) (rest := []) ⟨hx, hb, hml, hown, hts⟩ (c_FB_isFile l  D x _ ) ⟨(callB_of 1 hts (x_good k_FB_isFile) rfl rfl rfl (hts _ (List.mem_cons_of_mem _ tw_1)) (hts _ (List.mem_cons_of_mem _ tw_350)) (by decide +kernel) ⟨Nat.le_of_ble_eq_true rfl, Nat.le_of_ble_eq_true rfl⟩), (hts _ (List.mem_cons_of_mem _ tw_351))⟩ (xP_S hPc hKc hDc hAm hTh hAs hS) rfl rfl hl.1 rfl (lv_room (Nat.le_of_ble_eq_true rfl)) d_FB_remove_1 ⟨Nat.le_of_ble_eq_true rfl, Nat.le_of_ble_eq_true rfl⟩) hP hD hK hS hA [] [0, 1] rfl rfl (by decide) (by decide) (fun r1 _ H locs er1 hP hD hK hS => ?_)
  have er1 : r1 = xIn x 0 23 := er1
  subst er1
  have hK : va_K D cl [] s := hK
  have hP : va_P D cl [(fb, .inr (5, [.ref di, .ref gr, .ref re, .ref rl, .ref bu, .ref de])), (di, .inr (1, [.ref ct, .ref ti, .int 0, .int 0]))] H := hP
  have hD : va_D A [(fb, .inr (5, [.ref di, .ref gr, .ref re, .ref rl, .ref bu, .ref de])), (di, .inr (1, [.ref ct, .ref ti, .int 0, .int 0]))] := hD
  refine lv_if_ne (tgt := 17) hx hb d_FB_remove_4 (by decide) (fun b4 => ?_) (fun b4 => ?_)
  · exact absurd (xne0 (xIn_bin _ _ _) b4) h
  · obtain ⟨qz, hZ⟩ := hAm.2.1 _ (List.mem_of_getElem? (i := 10) rfl)
    exact xt_throw hx hb (hml.trans hl.1.symm) hfl hlk hemp (names := ["java/lang/RuntimeException", "java/lang/Exception"]) hown (hts _ (List.mem_cons_of_mem _ tw_249)) (hts _ (List.mem_cons_of_mem _ tw_250)) (hts _ (List.mem_cons_of_mem _ tw_12)) (by decide +kernel) (by decide +kernel) (xOwn own_IAE hts hAm hTh) hZ hS hAs (Nat.le_of_ble_eq_true rfl) (Nat.le_of_ble_eq_true rfl) (Nat.le_of_ble_eq_true rfl) (Nat.le_of_ble_eq_true rfl) (by decide) (Nat.le_of_ble_eq_true rfl) d_FB_remove_7 d_FB_remove_10 d_FB_remove_11 d_FB_remove_13 d_FB_remove_16
theorem d_FB_remove_17 : decode b_FB_remove 17 = .ok (.aload_n 0, 1) := by decide +kernel
theorem d_FB_remove_18 : decode b_FB_remove 18 = .ok (.getfield 12, 3) := by decide +kernel
theorem d_FB_remove_21 : decode b_FB_remove 21 = .ok (.getfield 146, 3) := by decide +kernel
theorem d_FB_remove_24 : decode b_FB_remove 24 = .ok (.iload_n 1, 1) := by decide +kernel
theorem d_FB_remove_25 : decode b_FB_remove 25 = .ok (.invokestatic 116, 3) := by decide +kernel
theorem d_FB_remove_28 : decode b_FB_remove 28 = .ok (.ifCond .ne (13), 3) := by decide +kernel
theorem d_FB_remove_31 : decode b_FB_remove 31 = .ok (.new 149, 3) := by decide +kernel
theorem d_FB_remove_34 : decode b_FB_remove 34 = .ok (.dup, 1) := by decide +kernel
theorem d_FB_remove_35 : decode b_FB_remove 35 = .ok (.ldc 151, 2) := by decide +kernel
theorem d_FB_remove_37 : decode b_FB_remove 37 = .ok (.invokespecial 153, 3) := by decide +kernel
theorem d_FB_remove_40 : decode b_FB_remove 40 = .ok (.athrow, 1) := by decide +kernel
set_option maxRecDepth 20000 in
set_option maxHeartbeats 4000000 in
theorem c_FB_remove_n (l : Launch) (hfl : l.flags = pinnedFlags ++ [noTraceFlag]) (D : va_G) (fb : Nat) (di : Nat) (gr : Nat) (re : Nat) (rl : Nat) (bu : Nat) (de : Nat) (ct : Nat) (ti : Nat) (x : Int32) (sz : Nat) (h : xIn x 0 23 = 1) : xMt l y_FB_remove w_FB_remove { frames := 7, cells := 1, slots := 6, locals := 110 } D cl [.ref fb, .int x] sz [] [(fb, .inr (5, [.ref di, .ref gr, .ref re, .ref rl, .ref bu, .ref de])), (di, .inr (1, [.ref ct, .ref ti, .int 0, .int 0]))] "java/util/NoSuchElementException" := by
  refine xMt_of (by decide +kernel) rfl (Nat.le_of_ble_eq_true rfl) ?_
  intro p e s m args below meth c ls A B hAe hA hsz hP hK hD hS hAm hTh hAs hl
  obtain ⟨⟨hx, hb, hml, hown, hts⟩, hret, hlk, hnm, hemp⟩ := id B
  have hl : lv_has ls 2 [(0, .ref fb), (1, .int x)] := hl
  refine lv_iload_n hx hb d_FB_remove_0 rfl (lv_at hl 1 rfl) ?_
  have hPc := hP.sub (ws' := []) [] rfl
  have hDc := hD.sub (ws' := []) [] (by decide) rfl
  have hKc := hK.sub (tys' := []) [] rfl
  refine xgi (wsC := []) (wr := [(fb, .inr (5, [.ref di, .ref gr, .ref re, .ref rl, .ref bu, .ref de])), (di, .inr (1, [.ref ct, .ref ti, .int 0, .int 0]))]) (va_runS (As := [.int x]) (rest := []) ⟨hx, hb, hml, hown, hts⟩ (c_FB_isFile l  D x _ ) ⟨(callB_of 1 hts (x_good k_FB_isFile) rfl rfl rfl (hts _ (List.mem_cons_of_mem _ tw_1)) (hts _ (List.mem_cons_of_mem _ tw_350)) (by decide +kernel) ⟨Nat.le_of_ble_eq_true rfl, Nat.le_of_ble_eq_true rfl⟩), (hts _ (List.mem_cons_of_mem _ tw_351))⟩ (xP_S hPc hKc hDc hAm hTh hAs hS) rfl rfl hl.1 rfl (lv_room (Nat.le_of_ble_eq_true rfl)) d_FB_remove_1 ⟨Nat.le_of_ble_eq_true rfl, Nat.le_of_ble_eq_true rfl⟩) hP hD hK hS hA [] [0, 1] rfl rfl (by decide) (by decide) (fun r1 _ H locs er1 hP hD hK hS => ?_)
  have er1 : r1 = xIn x 0 23 := er1
  subst er1
  have hK : va_K D cl [] s := hK
  have hP : va_P D cl [(fb, .inr (5, [.ref di, .ref gr, .ref re, .ref rl, .ref bu, .ref de])), (di, .inr (1, [.ref ct, .ref ti, .int 0, .int 0]))] H := hP
  have hD : va_D A [(fb, .inr (5, [.ref di, .ref gr, .ref re, .ref rl, .ref bu, .ref de])), (di, .inr (1, [.ref ct, .ref ti, .int 0, .int 0]))] := hD
  refine lv_if_ne (tgt := 17) hx hb d_FB_remove_4 (by decide) (fun b4 => ?_) (fun b4 => ?_)
  · refine lv_aload_n hx hb d_FB_remove_17 rfl (lv_at hl 0 rfl) ?_
    refine va_get (D := D) (ci := 5) (v := .ref di) (C := R_FB) (T := F_FB) (N := 6) hx hb hts (fun w h => List.mem_cons_of_mem _ (u_FB w h)) hown hK hP 0 rfl rfl 0 (by decide) (hts _ (List.mem_cons_of_mem _ tw_146)) (fun _ h9 => h9) rfl d_FB_remove_18 ?_
    refine va_getN (D := D) (ci := 1) (v := .int 0) (C := R_Di) (T := F_Di) (N := 4) hx hb hts (fun w h => List.mem_cons_of_mem _ (u_Di w h)) hown hK hP 1 rfl rfl 3 (by decide) (va_Nw.use rfl (hAm.1 _ (List.mem_of_getElem? (i := 3) rfl))) (fun _ h9 => h9) rfl d_FB_remove_21 ?_
    refine lv_iload_n hx hb d_FB_remove_24 rfl (lv_at hl 1 rfl) ?_
    have hPc := hP.sub (ws' := []) [] rfl
    have hDc := hD.sub (ws' := []) [] (by decide) rfl
    have hKc := hK.sub (tys' := []) [] rfl
    refine xgi (wsC := []) (wr := [(fb, .inr (5, [.ref di, .ref gr, .ref re, .ref rl, .ref bu, .ref de])), (di, .inr (1, [.ref ct, .ref ti, .int 0, .int 0]))]) (va_runS (As := [.int 0, .int x]) (rest := []) ⟨hx, hb, hml, hown, hts⟩ (c_FB_has l  D x _ ) ⟨(callB_of 2 hts (x_good k_FB_has) rfl rfl rfl (hts _ (List.mem_cons_of_mem _ tw_1)) (hts _ (List.mem_cons_of_mem _ tw_362)) (by decide +kernel) ⟨Nat.le_of_ble_eq_true rfl, Nat.le_of_ble_eq_true rfl⟩), (hts _ (List.mem_cons_of_mem _ tw_363))⟩ (xP_S hPc hKc hDc hAm hTh hAs hS) rfl rfl hl.1 rfl (lv_room (Nat.le_of_ble_eq_true rfl)) d_FB_remove_25 ⟨Nat.le_of_ble_eq_true rfl, Nat.le_of_ble_eq_true rfl⟩) hP hD hK hS hA [] [0, 1] rfl rfl (by decide) (by decide) (fun r2 _ H locs er2 hP hD hK hS => ?_)
    have er2 : r2 = 0 := er2
    subst er2
    have hK : va_K D cl [] s := hK
    have hP : va_P D cl [(fb, .inr (5, [.ref di, .ref gr, .ref re, .ref rl, .ref bu, .ref de])), (di, .inr (1, [.ref ct, .ref ti, .int 0, .int 0]))] H := hP
    have hD : va_D A [(fb, .inr (5, [.ref di, .ref gr, .ref re, .ref rl, .ref bu, .ref de])), (di, .inr (1, [.ref ct, .ref ti, .int 0, .int 0]))] := hD
    refine lv_if_ne (tgt := 41) hx hb d_FB_remove_28 (by decide) (fun b28 => absurd b28 (by decide)) (fun b28 => ?_)
    obtain ⟨qz, hZ⟩ := hAm.2.1 _ (List.mem_of_getElem? (i := 11) rfl)
    exact xt_throwN hx hb (hml.trans hl.1.symm) hfl hlk hemp (Y := "java/lang/RuntimeException") (names := ["java/lang/Exception"]) hown (hts _ (List.mem_cons_of_mem _ tw_430)) (hts _ (List.mem_cons_of_mem _ tw_431)) (hts _ (List.mem_cons_of_mem _ tw_14)) (by decide +kernel) (by decide +kernel) (by decide +kernel) dNSE_0 dNSE_1 dNSE_2 dNSE_5 (xOwn own_NSE hts hAm hTh) hZ hS hAs (Nat.le_of_ble_eq_true rfl) (Nat.le_of_ble_eq_true rfl) (Nat.le_of_ble_eq_true rfl) (Nat.le_of_ble_eq_true rfl) (by decide) (Nat.le_of_ble_eq_true rfl) d_FB_remove_31 d_FB_remove_34 d_FB_remove_35 d_FB_remove_37 d_FB_remove_40
  · exact absurd b4 (xne1 h)
theorem d_FB_begin_0 : decode b_FB_begin 0 = .ok (.iload_n 1, 1) := by decide +kernel
theorem d_FB_begin_1 : decode b_FB_begin 1 = .ok (.ifCond .eq (28), 3) := by decide +kernel
theorem d_FB_begin_4 : decode b_FB_begin 4 = .ok (.iload_n 1, 1) := by decide +kernel
theorem d_FB_begin_5 : decode b_FB_begin 5 = .ok (.ldc 158, 2) := by decide +kernel
theorem d_FB_begin_7 : decode b_FB_begin 7 = .ok (.iand, 1) := by decide +kernel
theorem d_FB_begin_8 : decode b_FB_begin 8 = .ok (.ifCond .ne (21), 3) := by decide +kernel
theorem d_FB_begin_11 : decode b_FB_begin 11 = .ok (.iload_n 2, 1) := by decide +kernel
theorem d_FB_begin_12 : decode b_FB_begin 12 = .ok (.iconst (1), 1) := by decide +kernel
theorem d_FB_begin_13 : decode b_FB_begin 13 = .ok (.iconst (4), 1) := by decide +kernel
theorem d_FB_begin_14 : decode b_FB_begin 14 = .ok (.invokestatic 61, 3) := by decide +kernel
theorem d_FB_begin_17 : decode b_FB_begin 17 = .ok (.ifCond .eq (12), 3) := by decide +kernel
theorem d_FB_begin_20 : decode b_FB_begin 20 = .ok (.iload_n 3, 1) := by decide +kernel
theorem d_FB_begin_21 : decode b_FB_begin 21 = .ok (.iconst (1), 1) := by decide +kernel
theorem d_FB_begin_22 : decode b_FB_begin 22 = .ok (.iconst (4), 1) := by decide +kernel
theorem d_FB_begin_23 : decode b_FB_begin 23 = .ok (.invokestatic 61, 3) := by decide +kernel
theorem d_FB_begin_26 : decode b_FB_begin 26 = .ok (.ifCond .ne (13), 3) := by decide +kernel
theorem d_FB_begin_29 : decode b_FB_begin 29 = .ok (.new 65, 3) := by decide +kernel
theorem d_FB_begin_32 : decode b_FB_begin 32 = .ok (.dup, 1) := by decide +kernel
theorem d_FB_begin_33 : decode b_FB_begin 33 = .ok (.ldc 159, 2) := by decide +kernel
theorem d_FB_begin_35 : decode b_FB_begin 35 = .ok (.invokespecial 69, 3) := by decide +kernel
theorem d_FB_begin_38 : decode b_FB_begin 38 = .ok (.athrow, 1) := by decide +kernel
set_option maxRecDepth 20000 in
set_option maxHeartbeats 4000000 in
theorem c_FB_begin_i (l : Launch) (hfl : l.flags = pinnedFlags ++ [noTraceFlag]) (D : va_G) (fb : Nat) (gr : Nat) (bu : Nat) (di : Nat) (re : Nat) (rl : Nat) (de : Nat) (gc : Nat) (gf : Nat) (gp : Nat) (gb : Nat) (gl : Nat) (bs : Nat) (ct : Nat) (ti : Nat) (x : Int32) (y : Int32) (z : Int32) (sz : Nat) (h : ¬ xokB x y z) : xMt l y_FB_begin w_FB_begin { frames := 7, cells := 1, slots := 6, locals := 110 } D cl [.ref fb, .int x, .int y, .int z] sz [] [(fb, .inr (5, [.ref di, .ref gr, .ref re, .ref rl, .ref bu, .ref de])), (gr, .inr (2, [.ref gc, .ref gf, .ref gp, .ref gb, .ref gl, .int 0])), (bu, .inr (0, [.ref bs, .int 0, .int 0, .int 0])), (di, .inr (1, [.ref ct, .ref ti, .int 0, .int 0]))] "java/lang/IllegalArgumentException" := by
  refine xMt_of (by decide +kernel) rfl (Nat.le_of_ble_eq_true rfl) ?_
  intro p e s m args below meth c ls A B hAe hA hsz hP hK hD hS hAm hTh hAs hl
  obtain ⟨⟨hx, hb, hml, hown, hts⟩, hret, hlk, hnm, hemp⟩ := id B
  have hl : lv_has ls 5 [(0, .ref fb), (1, .int x), (2, .int y), (3, .int z)] := hl
  refine lv_iload_n hx hb d_FB_begin_0 rfl (lv_at hl 1 rfl) ?_
  refine lv_if_eq (tgt := 29) hx hb d_FB_begin_1 (by decide) (fun b1 => ?_) (fun b1 => ?_)
  · obtain ⟨qz, hZ⟩ := hAm.2.1 _ (List.mem_of_getElem? (i := 12) rfl)
    exact xt_throw hx hb (hml.trans hl.1.symm) hfl hlk hemp (names := ["java/lang/RuntimeException", "java/lang/Exception"]) hown (hts _ (List.mem_cons_of_mem _ tw_249)) (hts _ (List.mem_cons_of_mem _ tw_250)) (hts _ (List.mem_cons_of_mem _ tw_12)) (by decide +kernel) (by decide +kernel) (xOwn own_IAE hts hAm hTh) hZ hS hAs (Nat.le_of_ble_eq_true rfl) (Nat.le_of_ble_eq_true rfl) (Nat.le_of_ble_eq_true rfl) (Nat.le_of_ble_eq_true rfl) (by decide) (Nat.le_of_ble_eq_true rfl) d_FB_begin_29 d_FB_begin_32 d_FB_begin_33 d_FB_begin_35 d_FB_begin_38
  · refine lv_iload_n hx hb d_FB_begin_4 rfl (lv_at hl 1 rfl) ?_
    refine lv_ldc (v := (-16777216)) hx hb hown (hts _ (List.mem_cons_of_mem _ tw_458)) d_FB_begin_5 ?_
    refine lv_iand hx hb d_FB_begin_7 ?_
    refine lv_if_ne (tgt := 29) hx hb d_FB_begin_8 (by decide) (fun b8 => ?_) (fun b8 => ?_)
    · obtain ⟨qz, hZ⟩ := hAm.2.1 _ (List.mem_of_getElem? (i := 12) rfl)
      exact xt_throw hx hb (hml.trans hl.1.symm) hfl hlk hemp (names := ["java/lang/RuntimeException", "java/lang/Exception"]) hown (hts _ (List.mem_cons_of_mem _ tw_249)) (hts _ (List.mem_cons_of_mem _ tw_250)) (hts _ (List.mem_cons_of_mem _ tw_12)) (by decide +kernel) (by decide +kernel) (xOwn own_IAE hts hAm hTh) hZ hS hAs (Nat.le_of_ble_eq_true rfl) (Nat.le_of_ble_eq_true rfl) (Nat.le_of_ble_eq_true rfl) (Nat.le_of_ble_eq_true rfl) (by decide) (Nat.le_of_ble_eq_true rfl) d_FB_begin_29 d_FB_begin_32 d_FB_begin_33 d_FB_begin_35 d_FB_begin_38
    · refine lv_iload_n hx hb d_FB_begin_11 rfl (lv_at hl 2 rfl) ?_
      refine lv_iconst (v := 1) hx hb d_FB_begin_12 (by decide) ?_
      refine lv_iconst (v := 4) hx hb d_FB_begin_13 (by decide) ?_
      have hPc := hP.sub (ws' := []) [] rfl
      have hDc := hD.sub (ws' := []) [] (by decide) rfl
      have hKc := hK.sub (tys' := []) [] rfl
      refine xgi (wsC := []) (wr := [(fb, .inr (5, [.ref di, .ref gr, .ref re, .ref rl, .ref bu, .ref de])), (gr, .inr (2, [.ref gc, .ref gf, .ref gp, .ref gb, .ref gl, .int 0])), (bu, .inr (0, [.ref bs, .int 0, .int 0, .int 0])), (di, .inr (1, [.ref ct, .ref ti, .int 0, .int 0]))]) (va_runS (As := [.int y, .int 1, .int 4]) (rest := []) ⟨hx, hb, hml, hown, hts⟩ (c_FB_isIn l  D y 1 4 _ ) ⟨(callB_of 3 hts (x_good k_FB_isIn) rfl rfl rfl (hts _ (List.mem_cons_of_mem _ tw_1)) (hts _ (List.mem_cons_of_mem _ tw_245)) (by decide +kernel) ⟨Nat.le_of_ble_eq_true rfl, Nat.le_of_ble_eq_true rfl⟩), (hts _ (List.mem_cons_of_mem _ tw_226))⟩ (xP_S hPc hKc hDc hAm hTh hAs hS) rfl rfl hl.1 rfl (lv_room (Nat.le_of_ble_eq_true rfl)) d_FB_begin_14 ⟨Nat.le_of_ble_eq_true rfl, Nat.le_of_ble_eq_true rfl⟩) hP hD hK hS hA [] [0, 1, 2, 3] rfl rfl (by decide) (by decide) (fun r1 _ H locs er1 hP hD hK hS => ?_)
      have er1 : r1 = xIn y 1 4 := er1
      subst er1
      have hK : va_K D cl [] s := hK
      have hP : va_P D cl [(fb, .inr (5, [.ref di, .ref gr, .ref re, .ref rl, .ref bu, .ref de])), (gr, .inr (2, [.ref gc, .ref gf, .ref gp, .ref gb, .ref gl, .int 0])), (bu, .inr (0, [.ref bs, .int 0, .int 0, .int 0])), (di, .inr (1, [.ref ct, .ref ti, .int 0, .int 0]))] H := hP
      have hD : va_D A [(fb, .inr (5, [.ref di, .ref gr, .ref re, .ref rl, .ref bu, .ref de])), (gr, .inr (2, [.ref gc, .ref gf, .ref gp, .ref gb, .ref gl, .int 0])), (bu, .inr (0, [.ref bs, .int 0, .int 0, .int 0])), (di, .inr (1, [.ref ct, .ref ti, .int 0, .int 0]))] := hD
      refine lv_if_eq (tgt := 29) hx hb d_FB_begin_17 (by decide) (fun b17 => ?_) (fun b17 => ?_)
      · obtain ⟨qz, hZ⟩ := hAm.2.1 _ (List.mem_of_getElem? (i := 12) rfl)
        exact xt_throw hx hb (hml.trans hl.1.symm) hfl hlk hemp (names := ["java/lang/RuntimeException", "java/lang/Exception"]) hown (hts _ (List.mem_cons_of_mem _ tw_249)) (hts _ (List.mem_cons_of_mem _ tw_250)) (hts _ (List.mem_cons_of_mem _ tw_12)) (by decide +kernel) (by decide +kernel) (xOwn own_IAE hts hAm hTh) hZ hS hAs (Nat.le_of_ble_eq_true rfl) (Nat.le_of_ble_eq_true rfl) (Nat.le_of_ble_eq_true rfl) (Nat.le_of_ble_eq_true rfl) (by decide) (Nat.le_of_ble_eq_true rfl) d_FB_begin_29 d_FB_begin_32 d_FB_begin_33 d_FB_begin_35 d_FB_begin_38
      · refine lv_iload_n hx hb d_FB_begin_20 rfl (lv_at hl 3 rfl) ?_
        refine lv_iconst (v := 1) hx hb d_FB_begin_21 (by decide) ?_
        refine lv_iconst (v := 4) hx hb d_FB_begin_22 (by decide) ?_
        have hPc := hP.sub (ws' := []) [] rfl
        have hDc := hD.sub (ws' := []) [] (by decide) rfl
        have hKc := hK.sub (tys' := []) [] rfl
        refine xgi (wsC := []) (wr := [(fb, .inr (5, [.ref di, .ref gr, .ref re, .ref rl, .ref bu, .ref de])), (gr, .inr (2, [.ref gc, .ref gf, .ref gp, .ref gb, .ref gl, .int 0])), (bu, .inr (0, [.ref bs, .int 0, .int 0, .int 0])), (di, .inr (1, [.ref ct, .ref ti, .int 0, .int 0]))]) (va_runS (As := [.int z, .int 1, .int 4]) (rest := []) ⟨hx, hb, hml, hown, hts⟩ (c_FB_isIn l  D z 1 4 _ ) ⟨(callB_of 3 hts (x_good k_FB_isIn) rfl rfl rfl (hts _ (List.mem_cons_of_mem _ tw_1)) (hts _ (List.mem_cons_of_mem _ tw_245)) (by decide +kernel) ⟨Nat.le_of_ble_eq_true rfl, Nat.le_of_ble_eq_true rfl⟩), (hts _ (List.mem_cons_of_mem _ tw_226))⟩ (xP_S hPc hKc hDc hAm hTh hAs hS) rfl rfl hl.1 rfl (lv_room (Nat.le_of_ble_eq_true rfl)) d_FB_begin_23 ⟨Nat.le_of_ble_eq_true rfl, Nat.le_of_ble_eq_true rfl⟩) hP hD hK hS hA [] [0, 1, 2, 3] rfl rfl (by decide) (by decide) (fun r2 _ H locs er2 hP hD hK hS => ?_)
        have er2 : r2 = xIn z 1 4 := er2
        subst er2
        have hK : va_K D cl [] s := hK
        have hP : va_P D cl [(fb, .inr (5, [.ref di, .ref gr, .ref re, .ref rl, .ref bu, .ref de])), (gr, .inr (2, [.ref gc, .ref gf, .ref gp, .ref gb, .ref gl, .int 0])), (bu, .inr (0, [.ref bs, .int 0, .int 0, .int 0])), (di, .inr (1, [.ref ct, .ref ti, .int 0, .int 0]))] H := hP
        have hD : va_D A [(fb, .inr (5, [.ref di, .ref gr, .ref re, .ref rl, .ref bu, .ref de])), (gr, .inr (2, [.ref gc, .ref gf, .ref gp, .ref gb, .ref gl, .int 0])), (bu, .inr (0, [.ref bs, .int 0, .int 0, .int 0])), (di, .inr (1, [.ref ct, .ref ti, .int 0, .int 0]))] := hD
        refine lv_if_ne (tgt := 39) hx hb d_FB_begin_26 (by decide) (fun b26 => ?_) (fun b26 => ?_)
        · exact absurd ⟨b1, b8, xne0 (xIn_bin _ _ _) b17, xne0 (xIn_bin _ _ _) b26⟩ h
        · obtain ⟨qz, hZ⟩ := hAm.2.1 _ (List.mem_of_getElem? (i := 12) rfl)
          exact xt_throw hx hb (hml.trans hl.1.symm) hfl hlk hemp (names := ["java/lang/RuntimeException", "java/lang/Exception"]) hown (hts _ (List.mem_cons_of_mem _ tw_249)) (hts _ (List.mem_cons_of_mem _ tw_250)) (hts _ (List.mem_cons_of_mem _ tw_12)) (by decide +kernel) (by decide +kernel) (xOwn own_IAE hts hAm hTh) hZ hS hAs (Nat.le_of_ble_eq_true rfl) (Nat.le_of_ble_eq_true rfl) (Nat.le_of_ble_eq_true rfl) (Nat.le_of_ble_eq_true rfl) (by decide) (Nat.le_of_ble_eq_true rfl) d_FB_begin_29 d_FB_begin_32 d_FB_begin_33 d_FB_begin_35 d_FB_begin_38
theorem d_FB_begin_39 : decode b_FB_begin 39 = .ok (.aload_n 0, 1) := by decide +kernel
theorem d_FB_begin_40 : decode b_FB_begin 40 = .ok (.invokevirtual 130, 3) := by decide +kernel
theorem d_FB_begin_43 : decode b_FB_begin 43 = .ok (.aload_n 0, 1) := by decide +kernel
theorem d_FB_begin_44 : decode b_FB_begin 44 = .ok (.getfield 19, 3) := by decide +kernel
theorem d_FB_begin_47 : decode b_FB_begin 47 = .ok (.iload_n 1, 1) := by decide +kernel
theorem d_FB_begin_48 : decode b_FB_begin 48 = .ok (.invokevirtual 161, 3) := by decide +kernel
theorem d_FB_begin_51 : decode b_FB_begin 51 = .ok (.istore 4, 2) := by decide +kernel
theorem d_FB_begin_53 : decode b_FB_begin 53 = .ok (.aload_n 0, 1) := by decide +kernel
theorem d_FB_begin_54 : decode b_FB_begin 54 = .ok (.getfield 19, 3) := by decide +kernel
theorem d_FB_begin_57 : decode b_FB_begin 57 = .ok (.iload 4, 2) := by decide +kernel
theorem d_FB_begin_59 : decode b_FB_begin 59 = .ok (.invokevirtual 165, 3) := by decide +kernel
theorem d_FB_begin_62 : decode b_FB_begin 62 = .ok (.ifCond .eq (13), 3) := by decide +kernel
theorem d_FB_begin_75 : decode b_FB_begin 75 = .ok (.aload_n 0, 1) := by decide +kernel
theorem d_FB_begin_76 : decode b_FB_begin 76 = .ok (.iload_n 1, 1) := by decide +kernel
theorem d_FB_begin_77 : decode b_FB_begin 77 = .ok (.aload_n 0, 1) := by decide +kernel
theorem d_FB_begin_78 : decode b_FB_begin 78 = .ok (.getfield 19, 3) := by decide +kernel
theorem d_FB_begin_81 : decode b_FB_begin 81 = .ok (.iload 4, 2) := by decide +kernel
theorem d_FB_begin_83 : decode b_FB_begin 83 = .ok (.invokevirtual 173, 3) := by decide +kernel
theorem d_FB_begin_86 : decode b_FB_begin 86 = .ok (.ior, 1) := by decide +kernel
theorem d_FB_begin_87 : decode b_FB_begin 87 = .ok (.invokevirtual 176, 3) := by decide +kernel
theorem d_FB_begin_90 : decode b_FB_begin 90 = .ok (.ifCond .eq (13), 3) := by decide +kernel
theorem d_FB_begin_93 : decode b_FB_begin 93 = .ok (.new 149, 3) := by decide +kernel
theorem d_FB_begin_96 : decode b_FB_begin 96 = .ok (.dup, 1) := by decide +kernel
theorem d_FB_begin_97 : decode b_FB_begin 97 = .ok (.ldc 179, 2) := by decide +kernel
theorem d_FB_begin_99 : decode b_FB_begin 99 = .ok (.invokespecial 153, 3) := by decide +kernel
theorem d_FB_begin_102 : decode b_FB_begin 102 = .ok (.athrow, 1) := by decide +kernel
set_option maxRecDepth 20000 in
set_option maxHeartbeats 4000000 in
theorem c_FB_begin_n (l : Launch) (hfl : l.flags = pinnedFlags ++ [noTraceFlag]) (D : va_G) (fb : Nat) (gr : Nat) (bu : Nat) (di : Nat) (re : Nat) (rl : Nat) (de : Nat) (gc : Nat) (gf : Nat) (gp : Nat) (gb : Nat) (gl : Nat) (bs : Nat) (ct : Nat) (ti : Nat) (x : Int32) (y : Int32) (z : Int32) (sz : Nat) (h : xokB x y z) : xMt l y_FB_begin w_FB_begin { frames := 7, cells := 1, slots := 6, locals := 110 } D cl [.ref fb, .int x, .int y, .int z] sz [] [(fb, .inr (5, [.ref di, .ref gr, .ref re, .ref rl, .ref bu, .ref de])), (gr, .inr (2, [.ref gc, .ref gf, .ref gp, .ref gb, .ref gl, .int 0])), (bu, .inr (0, [.ref bs, .int 0, .int 0, .int 0])), (di, .inr (1, [.ref ct, .ref ti, .int 0, .int 0]))] "java/util/NoSuchElementException" := by
  refine xMt_of (by decide +kernel) rfl (Nat.le_of_ble_eq_true rfl) ?_
  intro p e s m args below meth c ls A B hAe hA hsz hP hK hD hS hAm hTh hAs hl
  obtain ⟨⟨hx, hb, hml, hown, hts⟩, hret, hlk, hnm, hemp⟩ := id B
  have hl : lv_has ls 5 [(0, .ref fb), (1, .int x), (2, .int y), (3, .int z)] := hl
  refine lv_iload_n hx hb d_FB_begin_0 rfl (lv_at hl 1 rfl) ?_
  refine lv_if_eq (tgt := 29) hx hb d_FB_begin_1 (by decide) (fun b1 => ?_) (fun b1 => ?_)
  · first | exact absurd b1 h.1 | exact absurd h.2.1 b8 | exact absurd b17 (xne1 h.2.2.1) | exact absurd b26 (xne1 h.2.2.2)
  · refine lv_iload_n hx hb d_FB_begin_4 rfl (lv_at hl 1 rfl) ?_
    refine lv_ldc (v := (-16777216)) hx hb hown (hts _ (List.mem_cons_of_mem _ tw_458)) d_FB_begin_5 ?_
    refine lv_iand hx hb d_FB_begin_7 ?_
    refine lv_if_ne (tgt := 29) hx hb d_FB_begin_8 (by decide) (fun b8 => ?_) (fun b8 => ?_)
    · first | exact absurd b1 h.1 | exact absurd h.2.1 b8 | exact absurd b17 (xne1 h.2.2.1) | exact absurd b26 (xne1 h.2.2.2)
    · refine lv_iload_n hx hb d_FB_begin_11 rfl (lv_at hl 2 rfl) ?_
      refine lv_iconst (v := 1) hx hb d_FB_begin_12 (by decide) ?_
      refine lv_iconst (v := 4) hx hb d_FB_begin_13 (by decide) ?_
      have hPc := hP.sub (ws' := []) [] rfl
      have hDc := hD.sub (ws' := []) [] (by decide) rfl
      have hKc := hK.sub (tys' := []) [] rfl
      refine xgi (wsC := []) (wr := [(fb, .inr (5, [.ref di, .ref gr, .ref re, .ref rl, .ref bu, .ref de])), (gr, .inr (2, [.ref gc, .ref gf, .ref gp, .ref gb, .ref gl, .int 0])), (bu, .inr (0, [.ref bs, .int 0, .int 0, .int 0])), (di, .inr (1, [.ref ct, .ref ti, .int 0, .int 0]))]) (va_runS (As := [.int y, .int 1, .int 4]) (rest := []) ⟨hx, hb, hml, hown, hts⟩ (c_FB_isIn l  D y 1 4 _ ) ⟨(callB_of 3 hts (x_good k_FB_isIn) rfl rfl rfl (hts _ (List.mem_cons_of_mem _ tw_1)) (hts _ (List.mem_cons_of_mem _ tw_245)) (by decide +kernel) ⟨Nat.le_of_ble_eq_true rfl, Nat.le_of_ble_eq_true rfl⟩), (hts _ (List.mem_cons_of_mem _ tw_226))⟩ (xP_S hPc hKc hDc hAm hTh hAs hS) rfl rfl hl.1 rfl (lv_room (Nat.le_of_ble_eq_true rfl)) d_FB_begin_14 ⟨Nat.le_of_ble_eq_true rfl, Nat.le_of_ble_eq_true rfl⟩) hP hD hK hS hA [] [0, 1, 2, 3] rfl rfl (by decide) (by decide) (fun r1 _ H locs er1 hP hD hK hS => ?_)
      have er1 : r1 = xIn y 1 4 := er1
      subst er1
      have hK : va_K D cl [] s := hK
      have hP : va_P D cl [(fb, .inr (5, [.ref di, .ref gr, .ref re, .ref rl, .ref bu, .ref de])), (gr, .inr (2, [.ref gc, .ref gf, .ref gp, .ref gb, .ref gl, .int 0])), (bu, .inr (0, [.ref bs, .int 0, .int 0, .int 0])), (di, .inr (1, [.ref ct, .ref ti, .int 0, .int 0]))] H := hP
      have hD : va_D A [(fb, .inr (5, [.ref di, .ref gr, .ref re, .ref rl, .ref bu, .ref de])), (gr, .inr (2, [.ref gc, .ref gf, .ref gp, .ref gb, .ref gl, .int 0])), (bu, .inr (0, [.ref bs, .int 0, .int 0, .int 0])), (di, .inr (1, [.ref ct, .ref ti, .int 0, .int 0]))] := hD
      refine lv_if_eq (tgt := 29) hx hb d_FB_begin_17 (by decide) (fun b17 => ?_) (fun b17 => ?_)
      · first | exact absurd b1 h.1 | exact absurd h.2.1 b8 | exact absurd b17 (xne1 h.2.2.1) | exact absurd b26 (xne1 h.2.2.2)
      · refine lv_iload_n hx hb d_FB_begin_20 rfl (lv_at hl 3 rfl) ?_
        refine lv_iconst (v := 1) hx hb d_FB_begin_21 (by decide) ?_
        refine lv_iconst (v := 4) hx hb d_FB_begin_22 (by decide) ?_
        have hPc := hP.sub (ws' := []) [] rfl
        have hDc := hD.sub (ws' := []) [] (by decide) rfl
        have hKc := hK.sub (tys' := []) [] rfl
        refine xgi (wsC := []) (wr := [(fb, .inr (5, [.ref di, .ref gr, .ref re, .ref rl, .ref bu, .ref de])), (gr, .inr (2, [.ref gc, .ref gf, .ref gp, .ref gb, .ref gl, .int 0])), (bu, .inr (0, [.ref bs, .int 0, .int 0, .int 0])), (di, .inr (1, [.ref ct, .ref ti, .int 0, .int 0]))]) (va_runS (As := [.int z, .int 1, .int 4]) (rest := []) ⟨hx, hb, hml, hown, hts⟩ (c_FB_isIn l  D z 1 4 _ ) ⟨(callB_of 3 hts (x_good k_FB_isIn) rfl rfl rfl (hts _ (List.mem_cons_of_mem _ tw_1)) (hts _ (List.mem_cons_of_mem _ tw_245)) (by decide +kernel) ⟨Nat.le_of_ble_eq_true rfl, Nat.le_of_ble_eq_true rfl⟩), (hts _ (List.mem_cons_of_mem _ tw_226))⟩ (xP_S hPc hKc hDc hAm hTh hAs hS) rfl rfl hl.1 rfl (lv_room (Nat.le_of_ble_eq_true rfl)) d_FB_begin_23 ⟨Nat.le_of_ble_eq_true rfl, Nat.le_of_ble_eq_true rfl⟩) hP hD hK hS hA [] [0, 1, 2, 3] rfl rfl (by decide) (by decide) (fun r2 _ H locs er2 hP hD hK hS => ?_)
        have er2 : r2 = xIn z 1 4 := er2
        subst er2
        have hK : va_K D cl [] s := hK
        have hP : va_P D cl [(fb, .inr (5, [.ref di, .ref gr, .ref re, .ref rl, .ref bu, .ref de])), (gr, .inr (2, [.ref gc, .ref gf, .ref gp, .ref gb, .ref gl, .int 0])), (bu, .inr (0, [.ref bs, .int 0, .int 0, .int 0])), (di, .inr (1, [.ref ct, .ref ti, .int 0, .int 0]))] H := hP
        have hD : va_D A [(fb, .inr (5, [.ref di, .ref gr, .ref re, .ref rl, .ref bu, .ref de])), (gr, .inr (2, [.ref gc, .ref gf, .ref gp, .ref gb, .ref gl, .int 0])), (bu, .inr (0, [.ref bs, .int 0, .int 0, .int 0])), (di, .inr (1, [.ref ct, .ref ti, .int 0, .int 0]))] := hD
        refine lv_if_ne (tgt := 39) hx hb d_FB_begin_26 (by decide) (fun b26 => ?_) (fun b26 => ?_)
        · refine lv_aload_n hx hb d_FB_begin_39 rfl (lv_at hl 0 rfl) ?_
          have hPc := hP.sub (ws' := [(fb, .inr (5, [.ref di, .ref gr, .ref re, .ref rl, .ref bu, .ref de])), (bu, .inr (0, [.ref bs, .int 0, .int 0, .int 0]))]) [0, 2] rfl
          have hDc := hD.sub (ws' := [(fb, .inr (5, [.ref di, .ref gr, .ref re, .ref rl, .ref bu, .ref de])), (bu, .inr (0, [.ref bs, .int 0, .int 0, .int 0]))]) [0, 2] (by decide) rfl
          have hKc := hK.sub (tys' := []) [] rfl
          refine xgv (wsC := [(fb, .inr (5, [.ref di, .ref gr, .ref re, .ref rl, .ref bu, .ref de])), (bu, .inr (0, [.ref bs, .int 0, .int 0, .int 0]))]) (wr := [(gr, .inr (2, [.ref gc, .ref gf, .ref gp, .ref gb, .ref gl, .int 0])), (di, .inr (1, [.ref ct, .ref ti, .int 0, .int 0]))]) (va_runV (As := []) (rest := []) ⟨hx, hb, hml, hown, hts⟩ (c_FB_refuseUnderWay l  D fb bu di gr re rl de bs _ ) ⟨(callB_of 0 hts (x_good k_FB_refuseUnderWay) rfl rfl rfl (hts _ (List.mem_cons_of_mem _ tw_1)) (hts _ (List.mem_cons_of_mem _ tw_392)) (by decide +kernel) ⟨Nat.le_of_ble_eq_true rfl, Nat.le_of_ble_eq_true rfl⟩), (hts _ (List.mem_cons_of_mem _ tw_394)), (hts _ (List.mem_cons_of_mem _ (x_sel 19 rfl)))⟩ (xP_V (va_recv (ci := 5) (q0 := 0) hK hP rfl rfl) hPc hKc hDc hAm hTh hAs hS) rfl rfl hl.1 rfl (lv_room (Nat.le_of_ble_eq_true rfl)) d_FB_begin_40 ⟨Nat.le_of_ble_eq_true rfl, Nat.le_of_ble_eq_true rfl⟩) hP hD hK hS hA [0, 2] [1, 3] rfl rfl (by decide) (by decide) (fun _ H locs _ hP hD hK hS => ?_)
          have hK : va_K D cl [] s := hK
          have hP : va_P D cl [(gr, .inr (2, [.ref gc, .ref gf, .ref gp, .ref gb, .ref gl, .int 0])), (di, .inr (1, [.ref ct, .ref ti, .int 0, .int 0])), (fb, .inr (5, [.ref di, .ref gr, .ref re, .ref rl, .ref bu, .ref de])), (bu, .inr (0, [.ref bs, .int 0, .int 0, .int 0]))] H := hP
          have hD : va_D A [(gr, .inr (2, [.ref gc, .ref gf, .ref gp, .ref gb, .ref gl, .int 0])), (di, .inr (1, [.ref ct, .ref ti, .int 0, .int 0])), (fb, .inr (5, [.ref di, .ref gr, .ref re, .ref rl, .ref bu, .ref de])), (bu, .inr (0, [.ref bs, .int 0, .int 0, .int 0]))] := hD
          refine lv_aload_n hx hb d_FB_begin_43 rfl (lv_at hl 0 rfl) ?_
          refine va_get (D := D) (ci := 5) (v := .ref gr) (C := R_FB) (T := F_FB) (N := 6) hx hb hts (fun w h => List.mem_cons_of_mem _ (u_FB w h)) hown hK hP 2 rfl rfl 1 (by decide) (hts _ (List.mem_cons_of_mem _ tw_147)) (fun _ h9 => h9) rfl d_FB_begin_44 ?_
          refine lv_iload_n hx hb d_FB_begin_47 rfl (lv_at hl 1 rfl) ?_
          have hPc := hP.sub (ws' := [(gr, .inr (2, [.ref gc, .ref gf, .ref gp, .ref gb, .ref gl, .int 0]))]) [0] rfl
          have hDc := hD.sub (ws' := [(gr, .inr (2, [.ref gc, .ref gf, .ref gp, .ref gb, .ref gl, .int 0]))]) [0] (by decide) rfl
          have hKc := hK.sub (tys' := []) [] rfl
          refine xgi (wsC := [(gr, .inr (2, [.ref gc, .ref gf, .ref gp, .ref gb, .ref gl, .int 0]))]) (wr := [(di, .inr (1, [.ref ct, .ref ti, .int 0, .int 0])), (fb, .inr (5, [.ref di, .ref gr, .ref re, .ref rl, .ref bu, .ref de])), (bu, .inr (0, [.ref bs, .int 0, .int 0, .int 0]))]) (va_runVN (As := [.int x]) (rest := []) ⟨hx, hb, hml, hown, hts⟩ (c_Gr_reachedFrom l  D gr gc gf gp gb gl x _ ) ⟨(va_cnB 1 hts (x_good k_Gr_reachedFrom) rfl rfl rfl (hAm.1 _ (List.mem_of_getElem? (i := 48) rfl)) (hts _ (List.mem_cons_of_mem _ tw_3)) (by decide +kernel) ⟨Nat.le_of_ble_eq_true rfl, Nat.le_of_ble_eq_true rfl⟩), (hts _ (List.mem_cons_of_mem _ tw_462)), (hts _ (List.mem_cons_of_mem _ (x_sel 23 rfl)))⟩ (xP_V (va_recv (ci := 2) (q0 := 0) hK hP rfl rfl) hPc hKc hDc hAm hTh hAs hS) rfl rfl hl.1 rfl (lv_room (Nat.le_of_ble_eq_true rfl)) d_FB_begin_48 ⟨Nat.le_of_ble_eq_true rfl, Nat.le_of_ble_eq_true rfl⟩) hP hD hK hS hA [0] [1, 2, 3] rfl rfl (by decide) (by decide) (fun r3 _ H locs er3 hP hD hK hS => ?_)
          have er3 : r3 = 0 := er3
          subst er3
          have hK : va_K D cl [] s := hK
          have hP : va_P D cl [(di, .inr (1, [.ref ct, .ref ti, .int 0, .int 0])), (fb, .inr (5, [.ref di, .ref gr, .ref re, .ref rl, .ref bu, .ref de])), (bu, .inr (0, [.ref bs, .int 0, .int 0, .int 0])), (gr, .inr (2, [.ref gc, .ref gf, .ref gp, .ref gb, .ref gl, .int 0]))] H := hP
          have hD : va_D A [(di, .inr (1, [.ref ct, .ref ti, .int 0, .int 0])), (fb, .inr (5, [.ref di, .ref gr, .ref re, .ref rl, .ref bu, .ref de])), (bu, .inr (0, [.ref bs, .int 0, .int 0, .int 0])), (gr, .inr (2, [.ref gc, .ref gf, .ref gp, .ref gb, .ref gl, .int 0]))] := hD
          refine lv_istore hx hb d_FB_begin_51 hl (by decide) rfl (fun ls hl => ?_)
          have hl : lv_has ls 5 [(4, .int 0), (0, .ref fb), (1, .int x), (2, .int y), (3, .int z)] := hl
          refine lv_aload_n hx hb d_FB_begin_53 rfl (lv_at hl 1 rfl) ?_
          refine va_get (D := D) (ci := 5) (v := .ref gr) (C := R_FB) (T := F_FB) (N := 6) hx hb hts (fun w h => List.mem_cons_of_mem _ (u_FB w h)) hown hK hP 1 rfl rfl 1 (by decide) (hts _ (List.mem_cons_of_mem _ tw_147)) (fun _ h9 => h9) rfl d_FB_begin_54 ?_
          refine lv_iload hx hb d_FB_begin_57 (lv_at hl 0 rfl) ?_
          have hPc := hP.sub (ws' := [(gr, .inr (2, [.ref gc, .ref gf, .ref gp, .ref gb, .ref gl, .int 0]))]) [3] rfl
          have hDc := hD.sub (ws' := [(gr, .inr (2, [.ref gc, .ref gf, .ref gp, .ref gb, .ref gl, .int 0]))]) [3] (by decide) rfl
          have hKc := hK.sub (tys' := []) [] rfl
          refine xgi (wsC := [(gr, .inr (2, [.ref gc, .ref gf, .ref gp, .ref gb, .ref gl, .int 0]))]) (wr := [(di, .inr (1, [.ref ct, .ref ti, .int 0, .int 0])), (fb, .inr (5, [.ref di, .ref gr, .ref re, .ref rl, .ref bu, .ref de])), (bu, .inr (0, [.ref bs, .int 0, .int 0, .int 0]))]) (va_runVN (As := [.int 0]) (rest := []) ⟨hx, hb, hml, hown, hts⟩ (c_Gr_hasCycle l  D gr gc gf gp gb gl _ ) ⟨(va_cnB 1 hts (x_good k_Gr_hasCycle) rfl rfl rfl (hAm.1 _ (List.mem_of_getElem? (i := 50) rfl)) (hts _ (List.mem_cons_of_mem _ tw_3)) (by decide +kernel) ⟨Nat.le_of_ble_eq_true rfl, Nat.le_of_ble_eq_true rfl⟩), (hts _ (List.mem_cons_of_mem _ tw_475)), (hts _ (List.mem_cons_of_mem _ (x_sel 26 rfl)))⟩ (xP_V (va_recv (ci := 2) (q0 := 3) hK hP rfl rfl) hPc hKc hDc hAm hTh hAs hS) rfl rfl hl.1 rfl (lv_room (Nat.le_of_ble_eq_true rfl)) d_FB_begin_59 ⟨Nat.le_of_ble_eq_true rfl, Nat.le_of_ble_eq_true rfl⟩) hP hD hK hS hA [3] [0, 1, 2] rfl rfl (by decide) (by decide) (fun r4 _ H locs er4 hP hD hK hS => ?_)
          have er4 : r4 = 0 := er4
          subst er4
          have hK : va_K D cl [] s := hK
          have hP : va_P D cl [(di, .inr (1, [.ref ct, .ref ti, .int 0, .int 0])), (fb, .inr (5, [.ref di, .ref gr, .ref re, .ref rl, .ref bu, .ref de])), (bu, .inr (0, [.ref bs, .int 0, .int 0, .int 0])), (gr, .inr (2, [.ref gc, .ref gf, .ref gp, .ref gb, .ref gl, .int 0]))] H := hP
          have hD : va_D A [(di, .inr (1, [.ref ct, .ref ti, .int 0, .int 0])), (fb, .inr (5, [.ref di, .ref gr, .ref re, .ref rl, .ref bu, .ref de])), (bu, .inr (0, [.ref bs, .int 0, .int 0, .int 0])), (gr, .inr (2, [.ref gc, .ref gf, .ref gp, .ref gb, .ref gl, .int 0]))] := hD
          refine lv_if_eq (tgt := 75) hx hb d_FB_begin_62 (by decide) (fun b62 => ?_) (fun b62 => absurd b62 (by decide))
          refine lv_aload_n hx hb d_FB_begin_75 rfl (lv_at hl 1 rfl) ?_
          refine lv_iload_n hx hb d_FB_begin_76 rfl (lv_at hl 2 rfl) ?_
          refine lv_aload_n hx hb d_FB_begin_77 rfl (lv_at hl 1 rfl) ?_
          refine va_get (D := D) (ci := 5) (v := .ref gr) (C := R_FB) (T := F_FB) (N := 6) hx hb hts (fun w h => List.mem_cons_of_mem _ (u_FB w h)) hown hK hP 1 rfl rfl 1 (by decide) (hts _ (List.mem_cons_of_mem _ tw_147)) (fun _ h9 => h9) rfl d_FB_begin_78 ?_
          refine lv_iload hx hb d_FB_begin_81 (lv_at hl 0 rfl) ?_
          have hPc := hP.sub (ws' := [(gr, .inr (2, [.ref gc, .ref gf, .ref gp, .ref gb, .ref gl, .int 0]))]) [3] rfl
          have hDc := hD.sub (ws' := [(gr, .inr (2, [.ref gc, .ref gf, .ref gp, .ref gb, .ref gl, .int 0]))]) [3] (by decide) rfl
          have hKc := hK.sub (tys' := []) [] rfl
          refine xgi (wsC := [(gr, .inr (2, [.ref gc, .ref gf, .ref gp, .ref gb, .ref gl, .int 0]))]) (wr := [(di, .inr (1, [.ref ct, .ref ti, .int 0, .int 0])), (fb, .inr (5, [.ref di, .ref gr, .ref re, .ref rl, .ref bu, .ref de])), (bu, .inr (0, [.ref bs, .int 0, .int 0, .int 0]))]) (va_runVN (As := [.int 0]) (rest := [.int x, .ref fb]) ⟨hx, hb, hml, hown, hts⟩ (c_Gr_waitedForBy l  D gr gc gf gp gb gl 0 _ ) ⟨(va_cnB 1 hts (x_good k_Gr_waitedForBy) rfl rfl rfl (hAm.1 _ (List.mem_of_getElem? (i := 52) rfl)) (hts _ (List.mem_cons_of_mem _ tw_3)) (by decide +kernel) ⟨Nat.le_of_ble_eq_true rfl, Nat.le_of_ble_eq_true rfl⟩), (hts _ (List.mem_cons_of_mem _ tw_470)), (hts _ (List.mem_cons_of_mem _ (x_sel 25 rfl)))⟩ (xP_V (va_recv (ci := 2) (q0 := 3) hK hP rfl rfl) hPc hKc hDc hAm hTh hAs hS) rfl rfl hl.1 rfl (lv_room (Nat.le_of_ble_eq_true rfl)) d_FB_begin_83 ⟨Nat.le_of_ble_eq_true rfl, Nat.le_of_ble_eq_true rfl⟩) hP hD hK hS hA [3] [0, 1, 2] rfl rfl (by decide) (by decide) (fun r5 _ H locs er5 hP hD hK hS => ?_)
          have er5 : r5 = 0 := er5
          subst er5
          have hK : va_K D cl [] s := hK
          have hP : va_P D cl [(di, .inr (1, [.ref ct, .ref ti, .int 0, .int 0])), (fb, .inr (5, [.ref di, .ref gr, .ref re, .ref rl, .ref bu, .ref de])), (bu, .inr (0, [.ref bs, .int 0, .int 0, .int 0])), (gr, .inr (2, [.ref gc, .ref gf, .ref gp, .ref gb, .ref gl, .int 0]))] H := hP
          have hD : va_D A [(di, .inr (1, [.ref ct, .ref ti, .int 0, .int 0])), (fb, .inr (5, [.ref di, .ref gr, .ref re, .ref rl, .ref bu, .ref de])), (bu, .inr (0, [.ref bs, .int 0, .int 0, .int 0])), (gr, .inr (2, [.ref gc, .ref gf, .ref gp, .ref gb, .ref gl, .int 0]))] := hD
          refine lv_ior hx hb d_FB_begin_86 ?_
          have hPc := hP.sub (ws' := [(fb, .inr (5, [.ref di, .ref gr, .ref re, .ref rl, .ref bu, .ref de])), (gr, .inr (2, [.ref gc, .ref gf, .ref gp, .ref gb, .ref gl, .int 0])), (di, .inr (1, [.ref ct, .ref ti, .int 0, .int 0]))]) [1, 3, 0] rfl
          have hDc := hD.sub (ws' := [(fb, .inr (5, [.ref di, .ref gr, .ref re, .ref rl, .ref bu, .ref de])), (gr, .inr (2, [.ref gc, .ref gf, .ref gp, .ref gb, .ref gl, .int 0])), (di, .inr (1, [.ref ct, .ref ti, .int 0, .int 0]))]) [1, 3, 0] (by decide) rfl
          have hKc := hK.sub (tys' := []) [] rfl
          refine xgi (wsC := [(fb, .inr (5, [.ref di, .ref gr, .ref re, .ref rl, .ref bu, .ref de])), (gr, .inr (2, [.ref gc, .ref gf, .ref gp, .ref gb, .ref gl, .int 0])), (di, .inr (1, [.ref ct, .ref ti, .int 0, .int 0]))]) (wr := [(bu, .inr (0, [.ref bs, .int 0, .int 0, .int 0]))]) (va_runV (As := [.int (x ||| (0 : Int32))]) (rest := []) ⟨hx, hb, hml, hown, hts⟩ (c_FB_isMissing l  D fb gr di re rl bu de gc gf gp gb gl ct ti (x ||| (0 : Int32)) _ (by rw [xor0]; exact h.1)) ⟨(callB_of 1 hts (x_good k_FB_isMissing) rfl rfl rfl (hts _ (List.mem_cons_of_mem _ tw_1)) (hts _ (List.mem_cons_of_mem _ tw_498)) (by decide +kernel) ⟨Nat.le_of_ble_eq_true rfl, Nat.le_of_ble_eq_true rfl⟩), (hts _ (List.mem_cons_of_mem _ tw_500)), (hts _ (List.mem_cons_of_mem _ (x_sel 28 rfl)))⟩ (xP_V (va_recv (ci := 5) (q0 := 1) hK hP rfl rfl) hPc hKc hDc hAm hTh hAs hS) rfl rfl hl.1 rfl (lv_room (Nat.le_of_ble_eq_true rfl)) d_FB_begin_87 ⟨Nat.le_of_ble_eq_true rfl, Nat.le_of_ble_eq_true rfl⟩) hP hD hK hS hA [1, 3, 0] [2] rfl rfl (by decide) (by decide) (fun r6 _ H locs er6 hP hD hK hS => ?_)
          have er6 : r6 = 1 := er6
          subst er6
          have hK : va_K D cl [] s := hK
          have hP : va_P D cl [(bu, .inr (0, [.ref bs, .int 0, .int 0, .int 0])), (fb, .inr (5, [.ref di, .ref gr, .ref re, .ref rl, .ref bu, .ref de])), (gr, .inr (2, [.ref gc, .ref gf, .ref gp, .ref gb, .ref gl, .int 0])), (di, .inr (1, [.ref ct, .ref ti, .int 0, .int 0]))] H := hP
          have hD : va_D A [(bu, .inr (0, [.ref bs, .int 0, .int 0, .int 0])), (fb, .inr (5, [.ref di, .ref gr, .ref re, .ref rl, .ref bu, .ref de])), (gr, .inr (2, [.ref gc, .ref gf, .ref gp, .ref gb, .ref gl, .int 0])), (di, .inr (1, [.ref ct, .ref ti, .int 0, .int 0]))] := hD
          refine lv_if_eq (tgt := 103) hx hb d_FB_begin_90 (by decide) (fun b90 => absurd b90 (by decide)) (fun b90 => ?_)
          obtain ⟨qz, hZ⟩ := hAm.2.1 _ (List.mem_of_getElem? (i := 14) rfl)
          exact xt_throwN hx hb (hml.trans hl.1.symm) hfl hlk hemp (Y := "java/lang/RuntimeException") (names := ["java/lang/Exception"]) hown (hts _ (List.mem_cons_of_mem _ tw_430)) (hts _ (List.mem_cons_of_mem _ tw_431)) (hts _ (List.mem_cons_of_mem _ tw_14)) (by decide +kernel) (by decide +kernel) (by decide +kernel) dNSE_0 dNSE_1 dNSE_2 dNSE_5 (xOwn own_NSE hts hAm hTh) hZ hS hAs (Nat.le_of_ble_eq_true rfl) (Nat.le_of_ble_eq_true rfl) (Nat.le_of_ble_eq_true rfl) (Nat.le_of_ble_eq_true rfl) (by decide) (Nat.le_of_ble_eq_true rfl) d_FB_begin_93 d_FB_begin_96 d_FB_begin_97 d_FB_begin_99 d_FB_begin_102
        · first | exact absurd b1 h.1 | exact absurd h.2.1 b8 | exact absurd b17 (xne1 h.2.2.1) | exact absurd b26 (xne1 h.2.2.2)
theorem d_FB_start_0 : decode b_FB_start 0 = .ok (.aload_n 0, 1) := by decide +kernel
theorem d_FB_start_1 : decode b_FB_start 1 = .ok (.getfield 40, 3) := by decide +kernel
theorem d_FB_start_4 : decode b_FB_start 4 = .ok (.invokevirtual 76, 3) := by decide +kernel
theorem d_FB_start_7 : decode b_FB_start 7 = .ok (.ifCond .eq (10), 3) := by decide +kernel
theorem d_FB_start_17 : decode b_FB_start 17 = .ok (.iconst (-1), 1) := by decide +kernel
theorem d_FB_start_18 : decode b_FB_start 18 = .ok (.istore_n 1, 1) := by decide +kernel
theorem d_FB_start_19 : decode b_FB_start 19 = .ok (.iload_n 1, 1) := by decide +kernel
theorem d_FB_start_20 : decode b_FB_start 20 = .ok (.iconst (-1), 1) := by decide +kernel
theorem d_FB_start_21 : decode b_FB_start 21 = .ok (.if_icmp .eq (13), 3) := by decide +kernel
theorem d_FB_start_34 : decode b_FB_start 34 = .ok (.iload_n 1, 1) := by decide +kernel
theorem d_FB_start_35 : decode b_FB_start 35 = .ok (.ireturn, 1) := by decide +kernel
set_option maxRecDepth 20000 in
set_option maxHeartbeats 4000000 in
theorem c_FB_start (l : Launch) (D : va_G) (fb : Nat) (bu : Nat) (di : Nat) (gr : Nat) (re : Nat) (rl : Nat) (de : Nat) (bs : Nat) (sz : Nat)  : xMi l y_FB_start w_FB_start { frames := 2, cells := 0, slots := 0, locals := 60 } D cl [.ref fb] sz [] [(fb, .inr (5, [.ref di, .ref gr, .ref re, .ref rl, .ref bu, .ref de])), (bu, .inr (0, [.ref bs, .int 0, .int 0, .int 0]))] (fun (r : Int32) (_ : Unit) => r = (-1)) (fun _ => []) (fun _ => []) := by
  refine xMi_of (by decide +kernel) rfl (Nat.le_of_ble_eq_true rfl) ?_
  intro p e s m args below meth c ls A B hAe hA hsz hP hK hD hS hAm hTh hAs hl
  obtain ⟨⟨hx, hb, hml, hown, hts⟩, hret, hlk, hnm, hemp⟩ := id B
  have hl : lv_has ls 2 [(0, .ref fb)] := hl
  refine lv_aload_n hx hb d_FB_start_0 rfl (lv_at hl 0 rfl) ?_
  refine va_get (D := D) (ci := 5) (v := .ref bu) (C := R_FB) (T := F_FB) (N := 6) hx hb hts (fun w h => List.mem_cons_of_mem _ (u_FB w h)) hown hK hP 0 rfl rfl 4 (by decide) (hts _ (List.mem_cons_of_mem _ tw_150)) (fun _ h9 => h9) rfl d_FB_start_1 ?_
  have hPc := hP.sub (ws' := [(bu, .inr (0, [.ref bs, .int 0, .int 0, .int 0]))]) [1] rfl
  have hDc := hD.sub (ws' := [(bu, .inr (0, [.ref bs, .int 0, .int 0, .int 0]))]) [1] (by decide) rfl
  have hKc := hK.sub (tys' := []) [] rfl
  refine xgi (wsC := [(bu, .inr (0, [.ref bs, .int 0, .int 0, .int 0]))]) (wr := [(fb, .inr (5, [.ref di, .ref gr, .ref re, .ref rl, .ref bu, .ref de]))]) (va_runVN (As := []) (rest := []) ⟨hx, hb, hml, hown, hts⟩ (c_Bu_isUnderWay l  D bu bs _ ) ⟨(va_cnB 0 hts (x_good k_Bu_isUnderWay) rfl rfl rfl (hAm.1 _ (List.mem_of_getElem? (i := 23) rfl)) (hts _ (List.mem_cons_of_mem _ tw_7)) (by decide +kernel) ⟨Nat.le_of_ble_eq_true rfl, Nat.le_of_ble_eq_true rfl⟩), (hts _ (List.mem_cons_of_mem _ tw_171)), (hts _ (List.mem_cons_of_mem _ (x_sel 0 rfl)))⟩ (xP_V (va_recv (ci := 0) (q0 := 1) hK hP rfl rfl) hPc hKc hDc hAm hTh hAs hS) rfl rfl hl.1 rfl (lv_room (Nat.le_of_ble_eq_true rfl)) d_FB_start_4 ⟨Nat.le_of_ble_eq_true rfl, Nat.le_of_ble_eq_true rfl⟩) hP hD hK hS hA [1] [0] rfl rfl (by decide) (by decide) (fun r1 _ H locs er1 hP hD hK hS => ?_)
  have er1 : r1 = 0 := er1
  subst er1
  have hK : va_K D cl [] s := hK
  have hP : va_P D cl [(fb, .inr (5, [.ref di, .ref gr, .ref re, .ref rl, .ref bu, .ref de])), (bu, .inr (0, [.ref bs, .int 0, .int 0, .int 0]))] H := hP
  have hD : va_D A [(fb, .inr (5, [.ref di, .ref gr, .ref re, .ref rl, .ref bu, .ref de])), (bu, .inr (0, [.ref bs, .int 0, .int 0, .int 0]))] := hD
  refine lv_if_eq (tgt := 17) hx hb d_FB_start_7 (by decide) (fun b7 => ?_) (fun b7 => absurd b7 (by decide))
  refine lv_iconst (v := (-1)) hx hb d_FB_start_17 (by decide) ?_
  refine lv_istore_n hx hb d_FB_start_18 rfl hl (by decide) rfl (fun ls hl => ?_)
  have hl : lv_has ls 2 [(1, .int (-1)), (0, .ref fb)] := hl
  refine lv_iload_n hx hb d_FB_start_19 rfl (lv_at hl 0 rfl) ?_
  refine lv_iconst (v := (-1)) hx hb d_FB_start_20 (by decide) ?_
  refine lv_icmp_eq (tgt := 34) hx hb d_FB_start_21 (by decide) (fun b21 => ?_) (fun b21 => absurd b21 (by decide))
  refine lv_iload_n hx hb d_FB_start_34 rfl (lv_at hl 0 rfl) ?_
  exact xri () B d_FB_start_35 (rfl) (hP.sub (ws' := []) [] rfl) (hK.sub (tys' := []) [] rfl) (hD.sub (ws' := []) [] (by decide) rfl) hS (Nat.le_of_ble_eq_true rfl) (Nat.le_of_ble_eq_true rfl)
theorem d_FB_finish_0 : decode b_FB_finish 0 = .ok (.aload_n 0, 1) := by decide +kernel
theorem d_FB_finish_1 : decode b_FB_finish 1 = .ok (.getfield 19, 3) := by decide +kernel
theorem d_FB_finish_4 : decode b_FB_finish 4 = .ok (.iload_n 1, 1) := by decide +kernel
theorem d_FB_finish_5 : decode b_FB_finish 5 = .ok (.invokevirtual 89, 3) := by decide +kernel
theorem d_FB_finish_8 : decode b_FB_finish 8 = .ok (.ifCond .eq (16), 3) := by decide +kernel
theorem d_FB_finish_24 : decode b_FB_finish 24 = .ok (.new 149, 3) := by decide +kernel
theorem d_FB_finish_27 : decode b_FB_finish 27 = .ok (.dup, 1) := by decide +kernel
theorem d_FB_finish_28 : decode b_FB_finish 28 = .ok (.ldc 199, 2) := by decide +kernel
theorem d_FB_finish_30 : decode b_FB_finish 30 = .ok (.invokespecial 153, 3) := by decide +kernel
theorem d_FB_finish_33 : decode b_FB_finish 33 = .ok (.athrow, 1) := by decide +kernel
set_option maxRecDepth 20000 in
set_option maxHeartbeats 4000000 in
theorem c_FB_finish_n (l : Launch) (hfl : l.flags = pinnedFlags ++ [noTraceFlag]) (D : va_G) (fb : Nat) (gr : Nat) (di : Nat) (re : Nat) (rl : Nat) (bu : Nat) (de : Nat) (gc : Nat) (gf : Nat) (gp : Nat) (gb : Nat) (gl : Nat) (x : Int32) (y : Int32) (sz : Nat)  : xMt l y_FB_finish w_FB_finish { frames := 7, cells := 1, slots := 6, locals := 110 } D cl [.ref fb, .int x, .int y] sz [] [(fb, .inr (5, [.ref di, .ref gr, .ref re, .ref rl, .ref bu, .ref de])), (gr, .inr (2, [.ref gc, .ref gf, .ref gp, .ref gb, .ref gl, .int 0]))] "java/util/NoSuchElementException" := by
  refine xMt_of (by decide +kernel) rfl (Nat.le_of_ble_eq_true rfl) ?_
  intro p e s m args below meth c ls A B hAe hA hsz hP hK hD hS hAm hTh hAs hl
  obtain ⟨⟨hx, hb, hml, hown, hts⟩, hret, hlk, hnm, hemp⟩ := id B
  have hl : lv_has ls 4 [(0, .ref fb), (1, .int x), (2, .int y)] := hl
  refine lv_aload_n hx hb d_FB_finish_0 rfl (lv_at hl 0 rfl) ?_
  refine va_get (D := D) (ci := 5) (v := .ref gr) (C := R_FB) (T := F_FB) (N := 6) hx hb hts (fun w h => List.mem_cons_of_mem _ (u_FB w h)) hown hK hP 0 rfl rfl 1 (by decide) (hts _ (List.mem_cons_of_mem _ tw_147)) (fun _ h9 => h9) rfl d_FB_finish_1 ?_
  refine lv_iload_n hx hb d_FB_finish_4 rfl (lv_at hl 1 rfl) ?_
  have hPc := hP.sub (ws' := [(gr, .inr (2, [.ref gc, .ref gf, .ref gp, .ref gb, .ref gl, .int 0]))]) [1] rfl
  have hDc := hD.sub (ws' := [(gr, .inr (2, [.ref gc, .ref gf, .ref gp, .ref gb, .ref gl, .int 0]))]) [1] (by decide) rfl
  have hKc := hK.sub (tys' := []) [] rfl
  refine xgi (wsC := [(gr, .inr (2, [.ref gc, .ref gf, .ref gp, .ref gb, .ref gl, .int 0]))]) (wr := [(fb, .inr (5, [.ref di, .ref gr, .ref re, .ref rl, .ref bu, .ref de]))]) (va_runVN (As := [.int x]) (rest := []) ⟨hx, hb, hml, hown, hts⟩ (c_Gr_hasEdge l  D gr gc gf gp gb gl x _ ) ⟨(va_cnB 1 hts (x_good k_Gr_hasEdge) rfl rfl rfl (hAm.1 _ (List.mem_of_getElem? (i := 38) rfl)) (hts _ (List.mem_cons_of_mem _ tw_3)) (by decide +kernel) ⟨Nat.le_of_ble_eq_true rfl, Nat.le_of_ble_eq_true rfl⟩), (hts _ (List.mem_cons_of_mem _ tw_347)), (hts _ (List.mem_cons_of_mem _ (x_sel 14 rfl)))⟩ (xP_V (va_recv (ci := 2) (q0 := 1) hK hP rfl rfl) hPc hKc hDc hAm hTh hAs hS) rfl rfl hl.1 rfl (lv_room (Nat.le_of_ble_eq_true rfl)) d_FB_finish_5 ⟨Nat.le_of_ble_eq_true rfl, Nat.le_of_ble_eq_true rfl⟩) hP hD hK hS hA [1] [0] rfl rfl (by decide) (by decide) (fun r1 _ H locs er1 hP hD hK hS => ?_)
  have er1 : r1 = 0 := er1
  subst er1
  have hK : va_K D cl [] s := hK
  have hP : va_P D cl [(fb, .inr (5, [.ref di, .ref gr, .ref re, .ref rl, .ref bu, .ref de])), (gr, .inr (2, [.ref gc, .ref gf, .ref gp, .ref gb, .ref gl, .int 0]))] H := hP
  have hD : va_D A [(fb, .inr (5, [.ref di, .ref gr, .ref re, .ref rl, .ref bu, .ref de])), (gr, .inr (2, [.ref gc, .ref gf, .ref gp, .ref gb, .ref gl, .int 0]))] := hD
  refine lv_if_eq (tgt := 24) hx hb d_FB_finish_8 (by decide) (fun b8 => ?_) (fun b8 => absurd b8 (by decide))
  obtain ⟨qz, hZ⟩ := hAm.2.1 _ (List.mem_of_getElem? (i := 15) rfl)
  exact xt_throwN hx hb (hml.trans hl.1.symm) hfl hlk hemp (Y := "java/lang/RuntimeException") (names := ["java/lang/Exception"]) hown (hts _ (List.mem_cons_of_mem _ tw_430)) (hts _ (List.mem_cons_of_mem _ tw_431)) (hts _ (List.mem_cons_of_mem _ tw_14)) (by decide +kernel) (by decide +kernel) (by decide +kernel) dNSE_0 dNSE_1 dNSE_2 dNSE_5 (xOwn own_NSE hts hAm hTh) hZ hS hAs (Nat.le_of_ble_eq_true rfl) (Nat.le_of_ble_eq_true rfl) (Nat.le_of_ble_eq_true rfl) (Nat.le_of_ble_eq_true rfl) (by decide) (Nat.le_of_ble_eq_true rfl) d_FB_finish_24 d_FB_finish_27 d_FB_finish_28 d_FB_finish_30 d_FB_finish_33
theorem d_FB_state_0 : decode b_FB_state 0 = .ok (.aload_n 0, 1) := by decide +kernel
theorem d_FB_state_1 : decode b_FB_state 1 = .ok (.getfield 40, 3) := by decide +kernel
theorem d_FB_state_4 : decode b_FB_state 4 = .ok (.getfield 207, 3) := by decide +kernel
theorem d_FB_state_7 : decode b_FB_state 7 = .ok (.ireturn, 1) := by decide +kernel
set_option maxRecDepth 20000 in
set_option maxHeartbeats 4000000 in
theorem c_FB_state (l : Launch) (D : va_G) (fb : Nat) (bu : Nat) (di : Nat) (gr : Nat) (re : Nat) (rl : Nat) (de : Nat) (bs : Nat) (sz : Nat)  : xMi l y_FB_state w_FB_state { frames := 2, cells := 0, slots := 0, locals := 60 } D cl [.ref fb] sz [] [(fb, .inr (5, [.ref di, .ref gr, .ref re, .ref rl, .ref bu, .ref de])), (bu, .inr (0, [.ref bs, .int 0, .int 0, .int 0]))] (fun (r : Int32) (_ : Unit) => r = 0) (fun _ => []) (fun _ => []) := by
  refine xMi_of (by decide +kernel) rfl (Nat.le_of_ble_eq_true rfl) ?_
  intro p e s m args below meth c ls A B hAe hA hsz hP hK hD hS hAm hTh hAs hl
  obtain ⟨⟨hx, hb, hml, hown, hts⟩, hret, hlk, hnm, hemp⟩ := id B
  have hl : lv_has ls 1 [(0, .ref fb)] := hl
  refine lv_aload_n hx hb d_FB_state_0 rfl (lv_at hl 0 rfl) ?_
  refine va_get (D := D) (ci := 5) (v := .ref bu) (C := R_FB) (T := F_FB) (N := 6) hx hb hts (fun w h => List.mem_cons_of_mem _ (u_FB w h)) hown hK hP 0 rfl rfl 4 (by decide) (hts _ (List.mem_cons_of_mem _ tw_150)) (fun _ h9 => h9) rfl d_FB_state_1 ?_
  refine va_getN (D := D) (ci := 0) (v := .int 0) (C := R_Bu) (T := F_Bu) (N := 4) hx hb hts (fun w h => List.mem_cons_of_mem _ (u_Bu w h)) hown hK hP 1 rfl rfl 3 (by decide) (va_Nw.use rfl (hAm.1 _ (List.mem_of_getElem? (i := 22) rfl))) (fun _ h9 => h9) rfl d_FB_state_4 ?_
  exact xri () B d_FB_state_7 (rfl) (hP.sub (ws' := []) [] rfl) (hK.sub (tys' := []) [] rfl) (hD.sub (ws' := []) [] (by decide) rfl) hS (Nat.le_of_ble_eq_true rfl) (Nat.le_of_ble_eq_true rfl)
theorem d_FB_file_0 : decode b_FB_file 0 = .ok (.iload_n 1, 1) := by decide +kernel
theorem d_FB_file_1 : decode b_FB_file 1 = .ok (.invokestatic 92, 3) := by decide +kernel
theorem d_FB_file_4 : decode b_FB_file 4 = .ok (.ifCond .ne (13), 3) := by decide +kernel
theorem d_FB_file_17 : decode b_FB_file 17 = .ok (.iload_n 2, 1) := by decide +kernel
theorem d_FB_file_18 : decode b_FB_file 18 = .ok (.tableswitch (85) (0) (3) #[(30), (40), (50), (75)], 30) := by decide +kernel
theorem d_FB_file_48 : decode b_FB_file 48 = .ok (.aload_n 0, 1) := by decide +kernel
theorem d_FB_file_49 : decode b_FB_file 49 = .ok (.getfield 12, 3) := by decide +kernel
theorem d_FB_file_52 : decode b_FB_file 52 = .ok (.getfield 213, 3) := by decide +kernel
theorem d_FB_file_55 : decode b_FB_file 55 = .ok (.iload_n 1, 1) := by decide +kernel
theorem d_FB_file_56 : decode b_FB_file 56 = .ok (.iaload, 1) := by decide +kernel
theorem d_FB_file_57 : decode b_FB_file 57 = .ok (.ireturn, 1) := by decide +kernel
set_option maxRecDepth 20000 in
set_option maxHeartbeats 4000000 in
theorem c_FB_file_0 (l : Launch) (D : va_G) (fb : Nat) (di : Nat) (ct : Nat) (gr : Nat) (re : Nat) (rl : Nat) (bu : Nat) (de : Nat) (ti : Nat) (cI : ClassId) (x : Int32) (sz : Nat) (h : xIn x 0 23 = 1) : xMi l y_FB_file w_FB_file { frames := 2, cells := 0, slots := 0, locals := 60 } D cl [.ref fb, .int x, .int 0] sz [(cI, .int)] [(fb, .inr (5, [.ref di, .ref gr, .ref re, .ref rl, .ref bu, .ref de])), (di, .inr (1, [.ref ct, .ref ti, .int 0, .int 0])), (ct, .inl (cI, 24, .inl (fun _ => 0)))] (fun (r : Int32) (_ : Unit) => r = 0) (fun _ => []) (fun _ => []) := by
  refine xMi_of (by decide +kernel) rfl (Nat.le_of_ble_eq_true rfl) ?_
  intro p e s m args below meth c ls A B hAe hA hsz hP hK hD hS hAm hTh hAs hl
  obtain ⟨⟨hx, hb, hml, hown, hts⟩, hret, hlk, hnm, hemp⟩ := id B
  have hl : lv_has ls 3 [(0, .ref fb), (1, .int x), (2, .int 0)] := hl
  refine lv_iload_n hx hb d_FB_file_0 rfl (lv_at hl 1 rfl) ?_
  have hPc := hP.sub (ws' := []) [] rfl
  have hDc := hD.sub (ws' := []) [] (by decide) rfl
  have hKc := hK.sub (tys' := []) [] rfl
  refine xgi (wsC := []) (wr := [(fb, .inr (5, [.ref di, .ref gr, .ref re, .ref rl, .ref bu, .ref de])), (di, .inr (1, [.ref ct, .ref ti, .int 0, .int 0])), (ct, .inl (cI, 24, .inl (fun _ => 0)))]) (va_runS (As := [.int x]) (rest := []) ⟨hx, hb, hml, hown, hts⟩ (c_FB_isFile l  D x _ ) ⟨(callB_of 1 hts (x_good k_FB_isFile) rfl rfl rfl (hts _ (List.mem_cons_of_mem _ tw_1)) (hts _ (List.mem_cons_of_mem _ tw_350)) (by decide +kernel) ⟨Nat.le_of_ble_eq_true rfl, Nat.le_of_ble_eq_true rfl⟩), (hts _ (List.mem_cons_of_mem _ tw_351))⟩ (xP_S hPc hKc hDc hAm hTh hAs hS) rfl rfl hl.1 rfl (lv_room (Nat.le_of_ble_eq_true rfl)) d_FB_file_1 ⟨Nat.le_of_ble_eq_true rfl, Nat.le_of_ble_eq_true rfl⟩) hP hD hK hS hA [] [0, 1, 2] rfl rfl (by decide) (by decide) (fun r1 _ H locs er1 hP hD hK hS => ?_)
  have er1 : r1 = xIn x 0 23 := er1
  subst er1
  have hK : va_K D cl [(cI, .int)] s := hK
  have hP : va_P D cl [(fb, .inr (5, [.ref di, .ref gr, .ref re, .ref rl, .ref bu, .ref de])), (di, .inr (1, [.ref ct, .ref ti, .int 0, .int 0])), (ct, .inl (cI, 24, .inl (fun _ => 0)))] H := hP
  have hD : va_D A [(fb, .inr (5, [.ref di, .ref gr, .ref re, .ref rl, .ref bu, .ref de])), (di, .inr (1, [.ref ct, .ref ti, .int 0, .int 0])), (ct, .inl (cI, 24, .inl (fun _ => 0)))] := hD
  refine lv_if_ne (tgt := 17) hx hb d_FB_file_4 (by decide) (fun b4 => ?_) (fun b4 => ?_)
  · refine lv_iload_n hx hb d_FB_file_17 rfl (lv_at hl 2 rfl) ?_
    refine lv_tableIn (off := 30) (tgt := 48) hx hb d_FB_file_18 (by decide) (by decide) rfl (by decide) ?_
    refine lv_aload_n hx hb d_FB_file_48 rfl (lv_at hl 0 rfl) ?_
    refine va_get (D := D) (ci := 5) (v := .ref di) (C := R_FB) (T := F_FB) (N := 6) hx hb hts (fun w h => List.mem_cons_of_mem _ (u_FB w h)) hown hK hP 0 rfl rfl 0 (by decide) (hts _ (List.mem_cons_of_mem _ tw_146)) (fun _ h9 => h9) rfl d_FB_file_49 ?_
    refine va_getN (D := D) (ci := 1) (v := .ref ct) (C := R_Di) (T := F_Di) (N := 4) hx hb hts (fun w h => List.mem_cons_of_mem _ (u_Di w h)) hown hK hP 1 rfl rfl 0 (by decide) (va_Nw.use rfl (hAm.1 _ (List.mem_of_getElem? (i := 1) rfl))) (fun _ h9 => h9) rfl d_FB_file_52 ?_
    refine lv_iload_n hx hb d_FB_file_55 rfl (lv_at hl 1 rfl) ?_
    refine va_iald hx hb hK hP 2 0 rfl rfl (xIn_in2 h (by decide) (by decide)) d_FB_file_56 ?_
    refine xnum (v := 0) rfl ?_
    exact xri () B d_FB_file_57 (rfl) (hP.sub (ws' := []) [] rfl) (hK.sub (tys' := []) [] rfl) (hD.sub (ws' := []) [] (by decide) rfl) hS (Nat.le_of_ble_eq_true rfl) (Nat.le_of_ble_eq_true rfl)
  · exact absurd b4 (xne1 h)
theorem d_FB_file_58 : decode b_FB_file 58 = .ok (.aload_n 0, 1) := by decide +kernel
theorem d_FB_file_59 : decode b_FB_file 59 = .ok (.getfield 12, 3) := by decide +kernel
theorem d_FB_file_62 : decode b_FB_file 62 = .ok (.getfield 216, 3) := by decide +kernel
theorem d_FB_file_65 : decode b_FB_file 65 = .ok (.iload_n 1, 1) := by decide +kernel
theorem d_FB_file_66 : decode b_FB_file 66 = .ok (.iaload, 1) := by decide +kernel
theorem d_FB_file_67 : decode b_FB_file 67 = .ok (.ireturn, 1) := by decide +kernel
set_option maxRecDepth 20000 in
set_option maxHeartbeats 4000000 in
theorem c_FB_file_1 (l : Launch) (D : va_G) (fb : Nat) (di : Nat) (ti : Nat) (gr : Nat) (re : Nat) (rl : Nat) (bu : Nat) (de : Nat) (ct : Nat) (cI : ClassId) (x : Int32) (sz : Nat) (h : xIn x 0 23 = 1) : xMi l y_FB_file w_FB_file { frames := 2, cells := 0, slots := 0, locals := 60 } D cl [.ref fb, .int x, .int 1] sz [(cI, .int)] [(fb, .inr (5, [.ref di, .ref gr, .ref re, .ref rl, .ref bu, .ref de])), (di, .inr (1, [.ref ct, .ref ti, .int 0, .int 0])), (ti, .inl (cI, 24, .inl (fun _ => 0)))] (fun (r : Int32) (_ : Unit) => r = 0) (fun _ => []) (fun _ => []) := by
  refine xMi_of (by decide +kernel) rfl (Nat.le_of_ble_eq_true rfl) ?_
  intro p e s m args below meth c ls A B hAe hA hsz hP hK hD hS hAm hTh hAs hl
  obtain ⟨⟨hx, hb, hml, hown, hts⟩, hret, hlk, hnm, hemp⟩ := id B
  have hl : lv_has ls 3 [(0, .ref fb), (1, .int x), (2, .int 1)] := hl
  refine lv_iload_n hx hb d_FB_file_0 rfl (lv_at hl 1 rfl) ?_
  have hPc := hP.sub (ws' := []) [] rfl
  have hDc := hD.sub (ws' := []) [] (by decide) rfl
  have hKc := hK.sub (tys' := []) [] rfl
  refine xgi (wsC := []) (wr := [(fb, .inr (5, [.ref di, .ref gr, .ref re, .ref rl, .ref bu, .ref de])), (di, .inr (1, [.ref ct, .ref ti, .int 0, .int 0])), (ti, .inl (cI, 24, .inl (fun _ => 0)))]) (va_runS (As := [.int x]) (rest := []) ⟨hx, hb, hml, hown, hts⟩ (c_FB_isFile l  D x _ ) ⟨(callB_of 1 hts (x_good k_FB_isFile) rfl rfl rfl (hts _ (List.mem_cons_of_mem _ tw_1)) (hts _ (List.mem_cons_of_mem _ tw_350)) (by decide +kernel) ⟨Nat.le_of_ble_eq_true rfl, Nat.le_of_ble_eq_true rfl⟩), (hts _ (List.mem_cons_of_mem _ tw_351))⟩ (xP_S hPc hKc hDc hAm hTh hAs hS) rfl rfl hl.1 rfl (lv_room (Nat.le_of_ble_eq_true rfl)) d_FB_file_1 ⟨Nat.le_of_ble_eq_true rfl, Nat.le_of_ble_eq_true rfl⟩) hP hD hK hS hA [] [0, 1, 2] rfl rfl (by decide) (by decide) (fun r1 _ H locs er1 hP hD hK hS => ?_)
  have er1 : r1 = xIn x 0 23 := er1
  subst er1
  have hK : va_K D cl [(cI, .int)] s := hK
  have hP : va_P D cl [(fb, .inr (5, [.ref di, .ref gr, .ref re, .ref rl, .ref bu, .ref de])), (di, .inr (1, [.ref ct, .ref ti, .int 0, .int 0])), (ti, .inl (cI, 24, .inl (fun _ => 0)))] H := hP
  have hD : va_D A [(fb, .inr (5, [.ref di, .ref gr, .ref re, .ref rl, .ref bu, .ref de])), (di, .inr (1, [.ref ct, .ref ti, .int 0, .int 0])), (ti, .inl (cI, 24, .inl (fun _ => 0)))] := hD
  refine lv_if_ne (tgt := 17) hx hb d_FB_file_4 (by decide) (fun b4 => ?_) (fun b4 => ?_)
  · refine lv_iload_n hx hb d_FB_file_17 rfl (lv_at hl 2 rfl) ?_
    refine lv_tableIn (off := 40) (tgt := 58) hx hb d_FB_file_18 (by decide) (by decide) rfl (by decide) ?_
    refine lv_aload_n hx hb d_FB_file_58 rfl (lv_at hl 0 rfl) ?_
    refine va_get (D := D) (ci := 5) (v := .ref di) (C := R_FB) (T := F_FB) (N := 6) hx hb hts (fun w h => List.mem_cons_of_mem _ (u_FB w h)) hown hK hP 0 rfl rfl 0 (by decide) (hts _ (List.mem_cons_of_mem _ tw_146)) (fun _ h9 => h9) rfl d_FB_file_59 ?_
    refine va_getN (D := D) (ci := 1) (v := .ref ti) (C := R_Di) (T := F_Di) (N := 4) hx hb hts (fun w h => List.mem_cons_of_mem _ (u_Di w h)) hown hK hP 1 rfl rfl 1 (by decide) (va_Nw.use rfl (hAm.1 _ (List.mem_of_getElem? (i := 2) rfl))) (fun _ h9 => h9) rfl d_FB_file_62 ?_
    refine lv_iload_n hx hb d_FB_file_65 rfl (lv_at hl 1 rfl) ?_
    refine va_iald hx hb hK hP 2 0 rfl rfl (xIn_in2 h (by decide) (by decide)) d_FB_file_66 ?_
    refine xnum (v := 0) rfl ?_
    exact xri () B d_FB_file_67 (rfl) (hP.sub (ws' := []) [] rfl) (hK.sub (tys' := []) [] rfl) (hD.sub (ws' := []) [] (by decide) rfl) hS (Nat.le_of_ble_eq_true rfl) (Nat.le_of_ble_eq_true rfl)
  · exact absurd b4 (xne1 h)
theorem d_FB_file_68 : decode b_FB_file 68 = .ok (.aload_n 0, 1) := by decide +kernel
theorem d_FB_file_69 : decode b_FB_file 69 = .ok (.getfield 33, 3) := by decide +kernel
theorem d_FB_file_72 : decode b_FB_file 72 = .ok (.iload_n 1, 1) := by decide +kernel
theorem d_FB_file_73 : decode b_FB_file 73 = .ok (.invokevirtual 219, 3) := by decide +kernel
theorem d_FB_file_76 : decode b_FB_file 76 = .ok (.ifCond .eq (15), 3) := by decide +kernel
theorem d_FB_file_91 : decode b_FB_file 91 = .ok (.iconst (-1), 1) := by decide +kernel
theorem d_FB_file_92 : decode b_FB_file 92 = .ok (.ireturn, 1) := by decide +kernel
set_option maxRecDepth 20000 in
set_option maxHeartbeats 4000000 in
theorem c_FB_file_2 (l : Launch) (D : va_G) (fb : Nat) (rl : Nat) (rc : Nat) (di : Nat) (gr : Nat) (re : Nat) (bu : Nat) (de : Nat) (rb : Nat) (rt : Nat) (cI : ClassId) (x : Int32) (sz : Nat) (h : xIn x 0 23 = 1) : xMi l y_FB_file w_FB_file { frames := 2, cells := 0, slots := 0, locals := 60 } D cl [.ref fb, .int x, .int 2] sz [(cI, .int)] [(fb, .inr (5, [.ref di, .ref gr, .ref re, .ref rl, .ref bu, .ref de])), (rl, .inr (4, [.ref rb, .ref rc, .ref rt, .int 0])), (rc, .inl (cI, 24, .inl (fun _ => (-1))))] (fun (r : Int32) (_ : Unit) => r = (-1)) (fun _ => []) (fun _ => []) := by
  refine xMi_of (by decide +kernel) rfl (Nat.le_of_ble_eq_true rfl) ?_
  intro p e s m args below meth c ls A B hAe hA hsz hP hK hD hS hAm hTh hAs hl
  obtain ⟨⟨hx, hb, hml, hown, hts⟩, hret, hlk, hnm, hemp⟩ := id B
  have hl : lv_has ls 3 [(0, .ref fb), (1, .int x), (2, .int 2)] := hl
  refine lv_iload_n hx hb d_FB_file_0 rfl (lv_at hl 1 rfl) ?_
  have hPc := hP.sub (ws' := []) [] rfl
  have hDc := hD.sub (ws' := []) [] (by decide) rfl
  have hKc := hK.sub (tys' := []) [] rfl
  refine xgi (wsC := []) (wr := [(fb, .inr (5, [.ref di, .ref gr, .ref re, .ref rl, .ref bu, .ref de])), (rl, .inr (4, [.ref rb, .ref rc, .ref rt, .int 0])), (rc, .inl (cI, 24, .inl (fun _ => (-1))))]) (va_runS (As := [.int x]) (rest := []) ⟨hx, hb, hml, hown, hts⟩ (c_FB_isFile l  D x _ ) ⟨(callB_of 1 hts (x_good k_FB_isFile) rfl rfl rfl (hts _ (List.mem_cons_of_mem _ tw_1)) (hts _ (List.mem_cons_of_mem _ tw_350)) (by decide +kernel) ⟨Nat.le_of_ble_eq_true rfl, Nat.le_of_ble_eq_true rfl⟩), (hts _ (List.mem_cons_of_mem _ tw_351))⟩ (xP_S hPc hKc hDc hAm hTh hAs hS) rfl rfl hl.1 rfl (lv_room (Nat.le_of_ble_eq_true rfl)) d_FB_file_1 ⟨Nat.le_of_ble_eq_true rfl, Nat.le_of_ble_eq_true rfl⟩) hP hD hK hS hA [] [0, 1, 2] rfl rfl (by decide) (by decide) (fun r1 _ H locs er1 hP hD hK hS => ?_)
  have er1 : r1 = xIn x 0 23 := er1
  subst er1
  have hK : va_K D cl [(cI, .int)] s := hK
  have hP : va_P D cl [(fb, .inr (5, [.ref di, .ref gr, .ref re, .ref rl, .ref bu, .ref de])), (rl, .inr (4, [.ref rb, .ref rc, .ref rt, .int 0])), (rc, .inl (cI, 24, .inl (fun _ => (-1))))] H := hP
  have hD : va_D A [(fb, .inr (5, [.ref di, .ref gr, .ref re, .ref rl, .ref bu, .ref de])), (rl, .inr (4, [.ref rb, .ref rc, .ref rt, .int 0])), (rc, .inl (cI, 24, .inl (fun _ => (-1))))] := hD
  refine lv_if_ne (tgt := 17) hx hb d_FB_file_4 (by decide) (fun b4 => ?_) (fun b4 => ?_)
  · refine lv_iload_n hx hb d_FB_file_17 rfl (lv_at hl 2 rfl) ?_
    refine lv_tableIn (off := 50) (tgt := 68) hx hb d_FB_file_18 (by decide) (by decide) rfl (by decide) ?_
    refine lv_aload_n hx hb d_FB_file_68 rfl (lv_at hl 0 rfl) ?_
    refine va_get (D := D) (ci := 5) (v := .ref rl) (C := R_FB) (T := F_FB) (N := 6) hx hb hts (fun w h => List.mem_cons_of_mem _ (u_FB w h)) hown hK hP 0 rfl rfl 3 (by decide) (hts _ (List.mem_cons_of_mem _ tw_149)) (fun _ h9 => h9) rfl d_FB_file_69 ?_
    refine lv_iload_n hx hb d_FB_file_72 rfl (lv_at hl 1 rfl) ?_
    have hPc := hP.sub (ws' := [(rl, .inr (4, [.ref rb, .ref rc, .ref rt, .int 0])), (rc, .inl (cI, 24, .inl (fun _ => (-1))))]) [1, 2] rfl
    have hDc := hD.sub (ws' := [(rl, .inr (4, [.ref rb, .ref rc, .ref rt, .int 0])), (rc, .inl (cI, 24, .inl (fun _ => (-1))))]) [1, 2] (by decide) rfl
    have hKc := hK.sub (tys' := [(cI, .int)]) [0] rfl
    refine xgi (wsC := [(rl, .inr (4, [.ref rb, .ref rc, .ref rt, .int 0])), (rc, .inl (cI, 24, .inl (fun _ => (-1))))]) (wr := [(fb, .inr (5, [.ref di, .ref gr, .ref re, .ref rl, .ref bu, .ref de]))]) (va_runVN (As := [.int x]) (rest := []) ⟨hx, hb, hml, hown, hts⟩ (c_RL_hasRecord l  D rl rc rb rt cI x _ h) ⟨(va_cnB 1 hts (x_good k_RL_hasRecord) rfl rfl rfl (hAm.1 _ (List.mem_of_getElem? (i := 62) rfl)) (hts _ (List.mem_cons_of_mem _ tw_5)) (by decide +kernel) ⟨Nat.le_of_ble_eq_true rfl, Nat.le_of_ble_eq_true rfl⟩), (hts _ (List.mem_cons_of_mem _ tw_544)), (hts _ (List.mem_cons_of_mem _ (x_sel 37 rfl)))⟩ (xP_V (va_recv (ci := 4) (q0 := 1) hK hP rfl rfl) hPc hKc hDc hAm hTh hAs hS) rfl rfl hl.1 rfl (lv_room (Nat.le_of_ble_eq_true rfl)) d_FB_file_73 ⟨Nat.le_of_ble_eq_true rfl, Nat.le_of_ble_eq_true rfl⟩) hP hD hK hS hA [1, 2] [0] rfl rfl (by decide) (by decide) (fun r2 _ H locs er2 hP hD hK hS => ?_)
    have er2 : r2 = 0 := er2
    subst er2
    have hK : va_K D cl [(cI, .int)] s := hK
    have hP : va_P D cl [(fb, .inr (5, [.ref di, .ref gr, .ref re, .ref rl, .ref bu, .ref de])), (rl, .inr (4, [.ref rb, .ref rc, .ref rt, .int 0])), (rc, .inl (cI, 24, .inl (fun _ => (-1))))] H := hP
    have hD : va_D A [(fb, .inr (5, [.ref di, .ref gr, .ref re, .ref rl, .ref bu, .ref de])), (rl, .inr (4, [.ref rb, .ref rc, .ref rt, .int 0])), (rc, .inl (cI, 24, .inl (fun _ => (-1))))] := hD
    refine lv_if_eq (tgt := 91) hx hb d_FB_file_76 (by decide) (fun b76 => ?_) (fun b76 => absurd b76 (by decide))
    refine lv_iconst (v := (-1)) hx hb d_FB_file_91 (by decide) ?_
    exact xri () B d_FB_file_92 (rfl) (hP.sub (ws' := []) [] rfl) (hK.sub (tys' := []) [] rfl) (hD.sub (ws' := []) [] (by decide) rfl) hS (Nat.le_of_ble_eq_true rfl) (Nat.le_of_ble_eq_true rfl)
  · exact absurd b4 (xne1 h)
theorem d_FB_file_93 : decode b_FB_file 93 = .ok (.aload_n 0, 1) := by decide +kernel
theorem d_FB_file_94 : decode b_FB_file 94 = .ok (.getfield 33, 3) := by decide +kernel
theorem d_FB_file_97 : decode b_FB_file 97 = .ok (.getfield 223, 3) := by decide +kernel
theorem d_FB_file_100 : decode b_FB_file 100 = .ok (.iload_n 1, 1) := by decide +kernel
theorem d_FB_file_101 : decode b_FB_file 101 = .ok (.iaload, 1) := by decide +kernel
theorem d_FB_file_102 : decode b_FB_file 102 = .ok (.ireturn, 1) := by decide +kernel
set_option maxRecDepth 20000 in
set_option maxHeartbeats 4000000 in
theorem c_FB_file_3 (l : Launch) (D : va_G) (fb : Nat) (rl : Nat) (rc : Nat) (di : Nat) (gr : Nat) (re : Nat) (bu : Nat) (de : Nat) (rb : Nat) (rt : Nat) (cI : ClassId) (x : Int32) (sz : Nat) (h : xIn x 0 23 = 1) : xMi l y_FB_file w_FB_file { frames := 2, cells := 0, slots := 0, locals := 60 } D cl [.ref fb, .int x, .int 3] sz [(cI, .int)] [(fb, .inr (5, [.ref di, .ref gr, .ref re, .ref rl, .ref bu, .ref de])), (rl, .inr (4, [.ref rb, .ref rc, .ref rt, .int 0])), (rc, .inl (cI, 24, .inl (fun _ => (-1))))] (fun (r : Int32) (_ : Unit) => r = (-1)) (fun _ => []) (fun _ => []) := by
  refine xMi_of (by decide +kernel) rfl (Nat.le_of_ble_eq_true rfl) ?_
  intro p e s m args below meth c ls A B hAe hA hsz hP hK hD hS hAm hTh hAs hl
  obtain ⟨⟨hx, hb, hml, hown, hts⟩, hret, hlk, hnm, hemp⟩ := id B
  have hl : lv_has ls 3 [(0, .ref fb), (1, .int x), (2, .int 3)] := hl
  refine lv_iload_n hx hb d_FB_file_0 rfl (lv_at hl 1 rfl) ?_
  have hPc := hP.sub (ws' := []) [] rfl
  have hDc := hD.sub (ws' := []) [] (by decide) rfl
  have hKc := hK.sub (tys' := []) [] rfl
  refine xgi (wsC := []) (wr := [(fb, .inr (5, [.ref di, .ref gr, .ref re, .ref rl, .ref bu, .ref de])), (rl, .inr (4, [.ref rb, .ref rc, .ref rt, .int 0])), (rc, .inl (cI, 24, .inl (fun _ => (-1))))]) (va_runS (As := [.int x]) (rest := []) ⟨hx, hb, hml, hown, hts⟩ (c_FB_isFile l  D x _ ) ⟨(callB_of 1 hts (x_good k_FB_isFile) rfl rfl rfl (hts _ (List.mem_cons_of_mem _ tw_1)) (hts _ (List.mem_cons_of_mem _ tw_350)) (by decide +kernel) ⟨Nat.le_of_ble_eq_true rfl, Nat.le_of_ble_eq_true rfl⟩), (hts _ (List.mem_cons_of_mem _ tw_351))⟩ (xP_S hPc hKc hDc hAm hTh hAs hS) rfl rfl hl.1 rfl (lv_room (Nat.le_of_ble_eq_true rfl)) d_FB_file_1 ⟨Nat.le_of_ble_eq_true rfl, Nat.le_of_ble_eq_true rfl⟩) hP hD hK hS hA [] [0, 1, 2] rfl rfl (by decide) (by decide) (fun r1 _ H locs er1 hP hD hK hS => ?_)
  have er1 : r1 = xIn x 0 23 := er1
  subst er1
  have hK : va_K D cl [(cI, .int)] s := hK
  have hP : va_P D cl [(fb, .inr (5, [.ref di, .ref gr, .ref re, .ref rl, .ref bu, .ref de])), (rl, .inr (4, [.ref rb, .ref rc, .ref rt, .int 0])), (rc, .inl (cI, 24, .inl (fun _ => (-1))))] H := hP
  have hD : va_D A [(fb, .inr (5, [.ref di, .ref gr, .ref re, .ref rl, .ref bu, .ref de])), (rl, .inr (4, [.ref rb, .ref rc, .ref rt, .int 0])), (rc, .inl (cI, 24, .inl (fun _ => (-1))))] := hD
  refine lv_if_ne (tgt := 17) hx hb d_FB_file_4 (by decide) (fun b4 => ?_) (fun b4 => ?_)
  · refine lv_iload_n hx hb d_FB_file_17 rfl (lv_at hl 2 rfl) ?_
    refine lv_tableIn (off := 75) (tgt := 93) hx hb d_FB_file_18 (by decide) (by decide) rfl (by decide) ?_
    refine lv_aload_n hx hb d_FB_file_93 rfl (lv_at hl 0 rfl) ?_
    refine va_get (D := D) (ci := 5) (v := .ref rl) (C := R_FB) (T := F_FB) (N := 6) hx hb hts (fun w h => List.mem_cons_of_mem _ (u_FB w h)) hown hK hP 0 rfl rfl 3 (by decide) (hts _ (List.mem_cons_of_mem _ tw_149)) (fun _ h9 => h9) rfl d_FB_file_94 ?_
    refine va_getN (D := D) (ci := 4) (v := .ref rc) (C := R_RL) (T := F_RL) (N := 4) hx hb hts (fun w h => List.mem_cons_of_mem _ (u_RL w h)) hown hK hP 1 rfl rfl 1 (by decide) (va_Nw.use rfl (hAm.1 _ (List.mem_of_getElem? (i := 15) rfl))) (fun _ h9 => h9) rfl d_FB_file_97 ?_
    refine lv_iload_n hx hb d_FB_file_100 rfl (lv_at hl 1 rfl) ?_
    refine va_iald hx hb hK hP 2 0 rfl rfl (xIn_in2 h (by decide) (by decide)) d_FB_file_101 ?_
    refine xnum (v := (-1)) rfl ?_
    exact xri () B d_FB_file_102 (rfl) (hP.sub (ws' := []) [] rfl) (hK.sub (tys' := []) [] rfl) (hD.sub (ws' := []) [] (by decide) rfl) hS (Nat.le_of_ble_eq_true rfl) (Nat.le_of_ble_eq_true rfl)
  · exact absurd b4 (xne1 h)
theorem d_FB_file_103 : decode b_FB_file 103 = .ok (.new 65, 3) := by decide +kernel
theorem d_FB_file_106 : decode b_FB_file 106 = .ok (.dup, 1) := by decide +kernel
theorem d_FB_file_107 : decode b_FB_file 107 = .ok (.ldc 224, 2) := by decide +kernel
theorem d_FB_file_109 : decode b_FB_file 109 = .ok (.invokespecial 69, 3) := by decide +kernel
theorem d_FB_file_112 : decode b_FB_file 112 = .ok (.athrow, 1) := by decide +kernel
set_option maxRecDepth 20000 in
set_option maxHeartbeats 4000000 in
theorem c_FB_file_w (l : Launch) (hfl : l.flags = pinnedFlags ++ [noTraceFlag]) (D : va_G) (fb : Nat) (di : Nat) (gr : Nat) (re : Nat) (rl : Nat) (bu : Nat) (de : Nat) (ct : Nat) (ti : Nat) (x : Int32) (y : Int32) (sz : Nat) (h : xIn x 0 23 = 1) (h2 : ¬ xIn y 0 3 = 1) : xMt l y_FB_file w_FB_file { frames := 7, cells := 1, slots := 6, locals := 110 } D cl [.ref fb, .int x, .int y] sz [] [(fb, .inr (5, [.ref di, .ref gr, .ref re, .ref rl, .ref bu, .ref de])), (di, .inr (1, [.ref ct, .ref ti, .int 0, .int 0]))] "java/lang/IllegalArgumentException" := by
  refine xMt_of (by decide +kernel) rfl (Nat.le_of_ble_eq_true rfl) ?_
  intro p e s m args below meth c ls A B hAe hA hsz hP hK hD hS hAm hTh hAs hl
  obtain ⟨⟨hx, hb, hml, hown, hts⟩, hret, hlk, hnm, hemp⟩ := id B
  have hl : lv_has ls 3 [(0, .ref fb), (1, .int x), (2, .int y)] := hl
  refine lv_iload_n hx hb d_FB_file_0 rfl (lv_at hl 1 rfl) ?_
  have hPc := hP.sub (ws' := []) [] rfl
  have hDc := hD.sub (ws' := []) [] (by decide) rfl
  have hKc := hK.sub (tys' := []) [] rfl
  refine xgi (wsC := []) (wr := [(fb, .inr (5, [.ref di, .ref gr, .ref re, .ref rl, .ref bu, .ref de])), (di, .inr (1, [.ref ct, .ref ti, .int 0, .int 0]))]) (va_runS (As := [.int x]) (rest := []) ⟨hx, hb, hml, hown, hts⟩ (c_FB_isFile l  D x _ ) ⟨(callB_of 1 hts (x_good k_FB_isFile) rfl rfl rfl (hts _ (List.mem_cons_of_mem _ tw_1)) (hts _ (List.mem_cons_of_mem _ tw_350)) (by decide +kernel) ⟨Nat.le_of_ble_eq_true rfl, Nat.le_of_ble_eq_true rfl⟩), (hts _ (List.mem_cons_of_mem _ tw_351))⟩ (xP_S hPc hKc hDc hAm hTh hAs hS) rfl rfl hl.1 rfl (lv_room (Nat.le_of_ble_eq_true rfl)) d_FB_file_1 ⟨Nat.le_of_ble_eq_true rfl, Nat.le_of_ble_eq_true rfl⟩) hP hD hK hS hA [] [0, 1] rfl rfl (by decide) (by decide) (fun r1 _ H locs er1 hP hD hK hS => ?_)
  have er1 : r1 = xIn x 0 23 := er1
  subst er1
  have hK : va_K D cl [] s := hK
  have hP : va_P D cl [(fb, .inr (5, [.ref di, .ref gr, .ref re, .ref rl, .ref bu, .ref de])), (di, .inr (1, [.ref ct, .ref ti, .int 0, .int 0]))] H := hP
  have hD : va_D A [(fb, .inr (5, [.ref di, .ref gr, .ref re, .ref rl, .ref bu, .ref de])), (di, .inr (1, [.ref ct, .ref ti, .int 0, .int 0]))] := hD
  refine lv_if_ne (tgt := 17) hx hb d_FB_file_4 (by decide) (fun b4 => ?_) (fun b4 => ?_)
  · refine lv_iload_n hx hb d_FB_file_17 rfl (lv_at hl 2 rfl) ?_
    refine lv_tableOut (tgt := 103) hx hb d_FB_file_18 (xIn_out h2) (by decide) ?_
    obtain ⟨qz, hZ⟩ := hAm.2.1 _ (List.mem_of_getElem? (i := 17) rfl)
    exact xt_throw hx hb (hml.trans hl.1.symm) hfl hlk hemp (names := ["java/lang/RuntimeException", "java/lang/Exception"]) hown (hts _ (List.mem_cons_of_mem _ tw_249)) (hts _ (List.mem_cons_of_mem _ tw_250)) (hts _ (List.mem_cons_of_mem _ tw_12)) (by decide +kernel) (by decide +kernel) (xOwn own_IAE hts hAm hTh) hZ hS hAs (Nat.le_of_ble_eq_true rfl) (Nat.le_of_ble_eq_true rfl) (Nat.le_of_ble_eq_true rfl) (Nat.le_of_ble_eq_true rfl) (by decide) (Nat.le_of_ble_eq_true rfl) d_FB_file_103 d_FB_file_106 d_FB_file_107 d_FB_file_109 d_FB_file_112
  · exact absurd b4 (xne1 h)
theorem d_FB_file_7 : decode b_FB_file 7 = .ok (.new 65, 3) := by decide +kernel
theorem d_FB_file_10 : decode b_FB_file 10 = .ok (.dup, 1) := by decide +kernel
theorem d_FB_file_11 : decode b_FB_file 11 = .ok (.ldc 144, 2) := by decide +kernel
theorem d_FB_file_13 : decode b_FB_file 13 = .ok (.invokespecial 69, 3) := by decide +kernel
theorem d_FB_file_16 : decode b_FB_file 16 = .ok (.athrow, 1) := by decide +kernel
set_option maxRecDepth 20000 in
set_option maxHeartbeats 4000000 in
theorem c_FB_file_i (l : Launch) (hfl : l.flags = pinnedFlags ++ [noTraceFlag]) (D : va_G) (fb : Nat) (di : Nat) (gr : Nat) (re : Nat) (rl : Nat) (bu : Nat) (de : Nat) (ct : Nat) (ti : Nat) (x : Int32) (y : Int32) (sz : Nat) (h : ¬ xIn x 0 23 = 1) : xMt l y_FB_file w_FB_file { frames := 7, cells := 1, slots := 6, locals := 110 } D cl [.ref fb, .int x, .int y] sz [] [(fb, .inr (5, [.ref di, .ref gr, .ref re, .ref rl, .ref bu, .ref de])), (di, .inr (1, [.ref ct, .ref ti, .int 0, .int 0]))] "java/lang/IllegalArgumentException" := by
  refine xMt_of (by decide +kernel) rfl (Nat.le_of_ble_eq_true rfl) ?_
  intro p e s m args below meth c ls A B hAe hA hsz hP hK hD hS hAm hTh hAs hl
  obtain ⟨⟨hx, hb, hml, hown, hts⟩, hret, hlk, hnm, hemp⟩ := id B
  have hl : lv_has ls 3 [(0, .ref fb), (1, .int x), (2, .int y)] := hl
  refine lv_iload_n hx hb d_FB_file_0 rfl (lv_at hl 1 rfl) ?_
  have hPc := hP.sub (ws' := []) [] rfl
  have hDc := hD.sub (ws' := []) [] (by decide) rfl
  have hKc := hK.sub (tys' := []) [] rfl
  refine xgi (wsC := []) (wr := [(fb, .inr (5, [.ref di, .ref gr, .ref re, .ref rl, .ref bu, .ref de])), (di, .inr (1, [.ref ct, .ref ti, .int 0, .int 0]))]) (va_runS (As := [.int x]) (rest := []) ⟨hx, hb, hml, hown, hts⟩ (c_FB_isFile l  D x _ ) ⟨(callB_of 1 hts (x_good k_FB_isFile) rfl rfl rfl (hts _ (List.mem_cons_of_mem _ tw_1)) (hts _ (List.mem_cons_of_mem _ tw_350)) (by decide +kernel) ⟨Nat.le_of_ble_eq_true rfl, Nat.le_of_ble_eq_true rfl⟩), (hts _ (List.mem_cons_of_mem _ tw_351))⟩ (xP_S hPc hKc hDc hAm hTh hAs hS) rfl rfl hl.1 rfl (lv_room (Nat.le_of_ble_eq_true rfl)) d_FB_file_1 ⟨Nat.le_of_ble_eq_true rfl, Nat.le_of_ble_eq_true rfl⟩) hP hD hK hS hA [] [0, 1] rfl rfl (by decide) (by decide) (fun r1 _ H locs er1 hP hD hK hS => ?_)
  have er1 : r1 = xIn x 0 23 := er1
  subst er1
  have hK : va_K D cl [] s := hK
  have hP : va_P D cl [(fb, .inr (5, [.ref di, .ref gr, .ref re, .ref rl, .ref bu, .ref de])), (di, .inr (1, [.ref ct, .ref ti, .int 0, .int 0]))] H := hP
  have hD : va_D A [(fb, .inr (5, [.ref di, .ref gr, .ref re, .ref rl, .ref bu, .ref de])), (di, .inr (1, [.ref ct, .ref ti, .int 0, .int 0]))] := hD
  refine lv_if_ne (tgt := 17) hx hb d_FB_file_4 (by decide) (fun b4 => ?_) (fun b4 => ?_)
  · exact absurd (xne0 (xIn_bin _ _ _) b4) h
  · obtain ⟨qz, hZ⟩ := hAm.2.1 _ (List.mem_of_getElem? (i := 10) rfl)
    exact xt_throw hx hb (hml.trans hl.1.symm) hfl hlk hemp (names := ["java/lang/RuntimeException", "java/lang/Exception"]) hown (hts _ (List.mem_cons_of_mem _ tw_249)) (hts _ (List.mem_cons_of_mem _ tw_250)) (hts _ (List.mem_cons_of_mem _ tw_12)) (by decide +kernel) (by decide +kernel) (xOwn own_IAE hts hAm hTh) hZ hS hAs (Nat.le_of_ble_eq_true rfl) (Nat.le_of_ble_eq_true rfl) (Nat.le_of_ble_eq_true rfl) (Nat.le_of_ble_eq_true rfl) (by decide) (Nat.le_of_ble_eq_true rfl) d_FB_file_7 d_FB_file_10 d_FB_file_11 d_FB_file_13 d_FB_file_16
theorem d_FB_log_0 : decode b_FB_log 0 = .ok (.aload_n 0, 1) := by decide +kernel
theorem d_FB_log_1 : decode b_FB_log 1 = .ok (.getfield 33, 3) := by decide +kernel
theorem d_FB_log_4 : decode b_FB_log 4 = .ok (.iload_n 1, 1) := by decide +kernel
theorem d_FB_log_5 : decode b_FB_log 5 = .ok (.invokevirtual 226, 3) := by decide +kernel
theorem d_FB_log_8 : decode b_FB_log 8 = .ok (.ifCond .eq (15), 3) := by decide +kernel
theorem d_FB_log_23 : decode b_FB_log 23 = .ok (.iconst (-1), 1) := by decide +kernel
theorem d_FB_log_24 : decode b_FB_log 24 = .ok (.ireturn, 1) := by decide +kernel
set_option maxRecDepth 20000 in
set_option maxHeartbeats 4000000 in
theorem c_FB_log (l : Launch) (D : va_G) (fb : Nat) (rl : Nat) (di : Nat) (gr : Nat) (re : Nat) (bu : Nat) (de : Nat) (rb : Nat) (rc : Nat) (rt : Nat) (x : Int32) (sz : Nat)  : xMi l y_FB_log w_FB_log { frames := 2, cells := 0, slots := 0, locals := 60 } D cl [.ref fb, .int x] sz [] [(fb, .inr (5, [.ref di, .ref gr, .ref re, .ref rl, .ref bu, .ref de])), (rl, .inr (4, [.ref rb, .ref rc, .ref rt, .int 0]))] (fun (r : Int32) (_ : Unit) => r = (-1)) (fun _ => []) (fun _ => []) := by
  refine xMi_of (by decide +kernel) rfl (Nat.le_of_ble_eq_true rfl) ?_
  intro p e s m args below meth c ls A B hAe hA hsz hP hK hD hS hAm hTh hAs hl
  obtain ⟨⟨hx, hb, hml, hown, hts⟩, hret, hlk, hnm, hemp⟩ := id B
  have hl : lv_has ls 2 [(0, .ref fb), (1, .int x)] := hl
  refine lv_aload_n hx hb d_FB_log_0 rfl (lv_at hl 0 rfl) ?_
  refine va_get (D := D) (ci := 5) (v := .ref rl) (C := R_FB) (T := F_FB) (N := 6) hx hb hts (fun w h => List.mem_cons_of_mem _ (u_FB w h)) hown hK hP 0 rfl rfl 3 (by decide) (hts _ (List.mem_cons_of_mem _ tw_149)) (fun _ h9 => h9) rfl d_FB_log_1 ?_
  refine lv_iload_n hx hb d_FB_log_4 rfl (lv_at hl 1 rfl) ?_
  have hPc := hP.sub (ws' := [(rl, .inr (4, [.ref rb, .ref rc, .ref rt, .int 0]))]) [1] rfl
  have hDc := hD.sub (ws' := [(rl, .inr (4, [.ref rb, .ref rc, .ref rt, .int 0]))]) [1] (by decide) rfl
  have hKc := hK.sub (tys' := []) [] rfl
  refine xgi (wsC := [(rl, .inr (4, [.ref rb, .ref rc, .ref rt, .int 0]))]) (wr := [(fb, .inr (5, [.ref di, .ref gr, .ref re, .ref rl, .ref bu, .ref de]))]) (va_runVN (As := [.int x]) (rest := []) ⟨hx, hb, hml, hown, hts⟩ (c_RL_hasByte l  D rl rb rc rt x _ ) ⟨(va_cnB 1 hts (x_good k_RL_hasByte) rfl rfl rfl (hAm.1 _ (List.mem_of_getElem? (i := 27) rfl)) (hts _ (List.mem_cons_of_mem _ tw_5)) (by decide +kernel) ⟨Nat.le_of_ble_eq_true rfl, Nat.le_of_ble_eq_true rfl⟩), (hts _ (List.mem_cons_of_mem _ tw_223)), (hts _ (List.mem_cons_of_mem _ (x_sel 11 rfl)))⟩ (xP_V (va_recv (ci := 4) (q0 := 1) hK hP rfl rfl) hPc hKc hDc hAm hTh hAs hS) rfl rfl hl.1 rfl (lv_room (Nat.le_of_ble_eq_true rfl)) d_FB_log_5 ⟨Nat.le_of_ble_eq_true rfl, Nat.le_of_ble_eq_true rfl⟩) hP hD hK hS hA [1] [0] rfl rfl (by decide) (by decide) (fun r1 _ H locs er1 hP hD hK hS => ?_)
  have er1 : r1 = 0 := er1
  subst er1
  have hK : va_K D cl [] s := hK
  have hP : va_P D cl [(fb, .inr (5, [.ref di, .ref gr, .ref re, .ref rl, .ref bu, .ref de])), (rl, .inr (4, [.ref rb, .ref rc, .ref rt, .int 0]))] H := hP
  have hD : va_D A [(fb, .inr (5, [.ref di, .ref gr, .ref re, .ref rl, .ref bu, .ref de])), (rl, .inr (4, [.ref rb, .ref rc, .ref rt, .int 0]))] := hD
  refine lv_if_eq (tgt := 23) hx hb d_FB_log_8 (by decide) (fun b8 => ?_) (fun b8 => absurd b8 (by decide))
  refine lv_iconst (v := (-1)) hx hb d_FB_log_23 (by decide) ?_
  exact xri () B d_FB_log_24 (rfl) (hP.sub (ws' := []) [] rfl) (hK.sub (tys' := []) [] rfl) (hD.sub (ws' := []) [] (by decide) rfl) hS (Nat.le_of_ble_eq_true rfl) (Nat.le_of_ble_eq_true rfl)
theorem d_FB_spoil_0 : decode b_FB_spoil 0 = .ok (.aload_n 0, 1) := by decide +kernel
theorem d_FB_spoil_1 : decode b_FB_spoil 1 = .ok (.getfield 33, 3) := by decide +kernel
theorem d_FB_spoil_4 : decode b_FB_spoil 4 = .ok (.iload_n 1, 1) := by decide +kernel
theorem d_FB_spoil_5 : decode b_FB_spoil 5 = .ok (.invokevirtual 226, 3) := by decide +kernel
theorem d_FB_spoil_8 : decode b_FB_spoil 8 = .ok (.ifCond .ne (5), 3) := by decide +kernel
theorem d_FB_spoil_11 : decode b_FB_spoil 11 = .ok (.iconst (0), 1) := by decide +kernel
theorem d_FB_spoil_12 : decode b_FB_spoil 12 = .ok (.ireturn, 1) := by decide +kernel
set_option maxRecDepth 20000 in
set_option maxHeartbeats 4000000 in
theorem c_FB_spoil (l : Launch) (D : va_G) (fb : Nat) (rl : Nat) (di : Nat) (gr : Nat) (re : Nat) (bu : Nat) (de : Nat) (rb : Nat) (rc : Nat) (rt : Nat) (x : Int32) (y : Int32) (sz : Nat)  : xMi l y_FB_spoil w_FB_spoil { frames := 2, cells := 0, slots := 0, locals := 60 } D cl [.ref fb, .int x, .int y] sz [] [(fb, .inr (5, [.ref di, .ref gr, .ref re, .ref rl, .ref bu, .ref de])), (rl, .inr (4, [.ref rb, .ref rc, .ref rt, .int 0]))] (fun (r : Int32) (_ : Unit) => r = 0) (fun _ => []) (fun _ => []) := by
  refine xMi_of (by decide +kernel) rfl (Nat.le_of_ble_eq_true rfl) ?_
  intro p e s m args below meth c ls A B hAe hA hsz hP hK hD hS hAm hTh hAs hl
  obtain ⟨⟨hx, hb, hml, hown, hts⟩, hret, hlk, hnm, hemp⟩ := id B
  have hl : lv_has ls 3 [(0, .ref fb), (1, .int x), (2, .int y)] := hl
  refine lv_aload_n hx hb d_FB_spoil_0 rfl (lv_at hl 0 rfl) ?_
  refine va_get (D := D) (ci := 5) (v := .ref rl) (C := R_FB) (T := F_FB) (N := 6) hx hb hts (fun w h => List.mem_cons_of_mem _ (u_FB w h)) hown hK hP 0 rfl rfl 3 (by decide) (hts _ (List.mem_cons_of_mem _ tw_149)) (fun _ h9 => h9) rfl d_FB_spoil_1 ?_
  refine lv_iload_n hx hb d_FB_spoil_4 rfl (lv_at hl 1 rfl) ?_
  have hPc := hP.sub (ws' := [(rl, .inr (4, [.ref rb, .ref rc, .ref rt, .int 0]))]) [1] rfl
  have hDc := hD.sub (ws' := [(rl, .inr (4, [.ref rb, .ref rc, .ref rt, .int 0]))]) [1] (by decide) rfl
  have hKc := hK.sub (tys' := []) [] rfl
  refine xgi (wsC := [(rl, .inr (4, [.ref rb, .ref rc, .ref rt, .int 0]))]) (wr := [(fb, .inr (5, [.ref di, .ref gr, .ref re, .ref rl, .ref bu, .ref de]))]) (va_runVN (As := [.int x]) (rest := []) ⟨hx, hb, hml, hown, hts⟩ (c_RL_hasByte l  D rl rb rc rt x _ ) ⟨(va_cnB 1 hts (x_good k_RL_hasByte) rfl rfl rfl (hAm.1 _ (List.mem_of_getElem? (i := 27) rfl)) (hts _ (List.mem_cons_of_mem _ tw_5)) (by decide +kernel) ⟨Nat.le_of_ble_eq_true rfl, Nat.le_of_ble_eq_true rfl⟩), (hts _ (List.mem_cons_of_mem _ tw_223)), (hts _ (List.mem_cons_of_mem _ (x_sel 11 rfl)))⟩ (xP_V (va_recv (ci := 4) (q0 := 1) hK hP rfl rfl) hPc hKc hDc hAm hTh hAs hS) rfl rfl hl.1 rfl (lv_room (Nat.le_of_ble_eq_true rfl)) d_FB_spoil_5 ⟨Nat.le_of_ble_eq_true rfl, Nat.le_of_ble_eq_true rfl⟩) hP hD hK hS hA [1] [0] rfl rfl (by decide) (by decide) (fun r1 _ H locs er1 hP hD hK hS => ?_)
  have er1 : r1 = 0 := er1
  subst er1
  have hK : va_K D cl [] s := hK
  have hP : va_P D cl [(fb, .inr (5, [.ref di, .ref gr, .ref re, .ref rl, .ref bu, .ref de])), (rl, .inr (4, [.ref rb, .ref rc, .ref rt, .int 0]))] H := hP
  have hD : va_D A [(fb, .inr (5, [.ref di, .ref gr, .ref re, .ref rl, .ref bu, .ref de])), (rl, .inr (4, [.ref rb, .ref rc, .ref rt, .int 0]))] := hD
  refine lv_if_ne (tgt := 13) hx hb d_FB_spoil_8 (by decide) (fun b8 => absurd b8 (by decide)) (fun b8 => ?_)
  refine lv_iconst (v := 0) hx hb d_FB_spoil_11 (by decide) ?_
  exact xrz () B d_FB_spoil_12 (rfl) (rfl) (hP.sub (ws' := []) [] rfl) (hK.sub (tys' := []) [] rfl) (hD.sub (ws' := []) [] (by decide) rfl) hS (Nat.le_of_ble_eq_true rfl) (Nat.le_of_ble_eq_true rfl)
end
section
theorem xlt_ge {x : Int32} (h : x < 0) : ¬ 0 ≤ x := by
  simp only [Int32.le_iff_toInt_le, Int32.lt_iff_toInt_lt] at *
  omega
theorem xge_lt {x : Int32} (h : ¬ 0 ≤ x) : x < 0 := by
  simp only [Int32.le_iff_toInt_le, Int32.lt_iff_toInt_lt] at *
  omega
theorem d_FB_about_0 : decode b_FB_about 0 = .ok (.aload_n 0, 1) := by decide +kernel
theorem d_FB_about_1 : decode b_FB_about 1 = .ok (.iload_n 1, 1) := by decide +kernel
theorem d_FB_about_2 : decode b_FB_about 2 = .ok (.invokevirtual 210, 3) := by decide +kernel
set_option maxRecDepth 20000 in
set_option maxHeartbeats 4000000 in
theorem c_FB_about_t (l : Launch) (hfl : l.flags = pinnedFlags ++ [noTraceFlag]) (D : va_G) (fb : Nat) (gr : Nat) (di : Nat) (re : Nat) (rl : Nat) (bu : Nat) (de : Nat) (gc : Nat) (gf : Nat) (gp : Nat) (gb : Nat) (gl : Nat) (x : Int32) (sz : Nat)  : xMt l y_FB_about w_FB_about { frames := 7, cells := 1, slots := 6, locals := 120 } D cl [.ref fb, .int x] sz [] [(fb, .inr (5, [.ref di, .ref gr, .ref re, .ref rl, .ref bu, .ref de])), (gr, .inr (2, [.ref gc, .ref gf, .ref gp, .ref gb, .ref gl, .int 0]))] "java/lang/IllegalArgumentException" := by
  refine xMt_of (by decide +kernel) rfl (Nat.le_of_ble_eq_true rfl) ?_
  intro p e s m args below meth c ls A B hAe hA hsz hP hK hD hS hAm hTh hAs hl
  obtain ⟨⟨hx, hb, hml, hown, hts⟩, hret, hlk, hnm, hemp⟩ := id B
  have hl : lv_has ls 2 [(0, .ref fb), (1, .int x)] := hl
  refine lv_aload_n hx hb d_FB_about_0 rfl (lv_at hl 0 rfl) ?_
  refine lv_iload_n hx hb d_FB_about_1 rfl (lv_at hl 1 rfl) ?_
  have hPc := hP.sub (ws' := [(fb, .inr (5, [.ref di, .ref gr, .ref re, .ref rl, .ref bu, .ref de])), (gr, .inr (2, [.ref gc, .ref gf, .ref gp, .ref gb, .ref gl, .int 0]))]) [0, 1] rfl
  have hDc := hD.sub (ws' := [(fb, .inr (5, [.ref di, .ref gr, .ref re, .ref rl, .ref bu, .ref de])), (gr, .inr (2, [.ref gc, .ref gf, .ref gp, .ref gb, .ref gl, .int 0]))]) [0, 1] (by decide) rfl
  have hKc := hK.sub (tys' := []) [] rfl
  have hFc := va_free (wc := [(fb, .inr (5, [.ref di, .ref gr, .ref re, .ref rl, .ref bu, .ref de])), (gr, .inr (2, [.ref gc, .ref gf, .ref gp, .ref gb, .ref gl, .int 0]))]) hD hS hA [0, 1] rfl
  have hS00 := hS.1
  refine xt_callV (As := [.int x]) (rest := []) ⟨hx, hb, hml, hown, hts⟩ (c_FB_refuseUnknownEdge l hfl  D fb gr di re rl bu de gc gf gp gb gl x _ ) ⟨(callB_of 1 hts (x_good k_FB_refuseUnknownEdge) rfl rfl rfl (hts _ (List.mem_cons_of_mem _ tw_1)) (hts _ (List.mem_cons_of_mem _ tw_606)) (by decide +kernel) ⟨Nat.le_of_ble_eq_true rfl, Nat.le_of_ble_eq_true rfl⟩), (hts _ (List.mem_cons_of_mem _ tw_608)), (hts _ (List.mem_cons_of_mem _ (x_sel 48 rfl)))⟩ (xP_V (va_recv (ci := 5) (q0 := 0) hK hP rfl rfl) hPc hKc hDc hAm hTh hAs hS) rfl hl.1 rfl (Nat.le_of_ble_eq_true rfl) d_FB_about_2 ⟨Nat.le_of_ble_eq_true rfl, Nat.le_of_ble_eq_true rfl⟩ hS (fun q _ h => hFc q h) hFc (fun x9 cell H locs hx1 hx2 hx3 hx4 hz9 hk9 hS => ?_)
  exact xt_leave hlk hemp hS (Nat.le_trans hS00 hx1) hx2 hx3 hx4 (Nat.le_of_ble_eq_true rfl) (Nat.le_of_ble_eq_true rfl)
theorem d_FB_commandOf_0 : decode b_FB_commandOf 0 = .ok (.aload_n 0, 1) := by decide +kernel
theorem d_FB_commandOf_1 : decode b_FB_commandOf 1 = .ok (.iload_n 1, 1) := by decide +kernel
theorem d_FB_commandOf_2 : decode b_FB_commandOf 2 = .ok (.invokevirtual 210, 3) := by decide +kernel
set_option maxRecDepth 20000 in
set_option maxHeartbeats 4000000 in
theorem c_FB_commandOf_t (l : Launch) (hfl : l.flags = pinnedFlags ++ [noTraceFlag]) (D : va_G) (fb : Nat) (gr : Nat) (di : Nat) (re : Nat) (rl : Nat) (bu : Nat) (de : Nat) (gc : Nat) (gf : Nat) (gp : Nat) (gb : Nat) (gl : Nat) (x : Int32) (sz : Nat)  : xMt l y_FB_commandOf w_FB_commandOf { frames := 7, cells := 1, slots := 6, locals := 120 } D cl [.ref fb, .int x] sz [] [(fb, .inr (5, [.ref di, .ref gr, .ref re, .ref rl, .ref bu, .ref de])), (gr, .inr (2, [.ref gc, .ref gf, .ref gp, .ref gb, .ref gl, .int 0]))] "java/lang/IllegalArgumentException" := by
  refine xMt_of (by decide +kernel) rfl (Nat.le_of_ble_eq_true rfl) ?_
  intro p e s m args below meth c ls A B hAe hA hsz hP hK hD hS hAm hTh hAs hl
  obtain ⟨⟨hx, hb, hml, hown, hts⟩, hret, hlk, hnm, hemp⟩ := id B
  have hl : lv_has ls 2 [(0, .ref fb), (1, .int x)] := hl
  refine lv_aload_n hx hb d_FB_commandOf_0 rfl (lv_at hl 0 rfl) ?_
  refine lv_iload_n hx hb d_FB_commandOf_1 rfl (lv_at hl 1 rfl) ?_
  have hPc := hP.sub (ws' := [(fb, .inr (5, [.ref di, .ref gr, .ref re, .ref rl, .ref bu, .ref de])), (gr, .inr (2, [.ref gc, .ref gf, .ref gp, .ref gb, .ref gl, .int 0]))]) [0, 1] rfl
  have hDc := hD.sub (ws' := [(fb, .inr (5, [.ref di, .ref gr, .ref re, .ref rl, .ref bu, .ref de])), (gr, .inr (2, [.ref gc, .ref gf, .ref gp, .ref gb, .ref gl, .int 0]))]) [0, 1] (by decide) rfl
  have hKc := hK.sub (tys' := []) [] rfl
  have hFc := va_free (wc := [(fb, .inr (5, [.ref di, .ref gr, .ref re, .ref rl, .ref bu, .ref de])), (gr, .inr (2, [.ref gc, .ref gf, .ref gp, .ref gb, .ref gl, .int 0]))]) hD hS hA [0, 1] rfl
  have hS00 := hS.1
  refine xt_callV (As := [.int x]) (rest := []) ⟨hx, hb, hml, hown, hts⟩ (c_FB_refuseUnknownEdge l hfl  D fb gr di re rl bu de gc gf gp gb gl x _ ) ⟨(callB_of 1 hts (x_good k_FB_refuseUnknownEdge) rfl rfl rfl (hts _ (List.mem_cons_of_mem _ tw_1)) (hts _ (List.mem_cons_of_mem _ tw_606)) (by decide +kernel) ⟨Nat.le_of_ble_eq_true rfl, Nat.le_of_ble_eq_true rfl⟩), (hts _ (List.mem_cons_of_mem _ tw_608)), (hts _ (List.mem_cons_of_mem _ (x_sel 48 rfl)))⟩ (xP_V (va_recv (ci := 5) (q0 := 0) hK hP rfl rfl) hPc hKc hDc hAm hTh hAs hS) rfl hl.1 rfl (Nat.le_of_ble_eq_true rfl) d_FB_commandOf_2 ⟨Nat.le_of_ble_eq_true rfl, Nat.le_of_ble_eq_true rfl⟩ hS (fun q _ h => hFc q h) hFc (fun x9 cell H locs hx1 hx2 hx3 hx4 hz9 hk9 hS => ?_)
  exact xt_leave hlk hemp hS (Nat.le_trans hS00 hx1) hx2 hx3 hx4 (Nat.le_of_ble_eq_true rfl) (Nat.le_of_ble_eq_true rfl)
theorem d_RL_readAgain_0 : decode b_RL_readAgain 0 = .ok (.aload_n 0, 1) := by decide +kernel
theorem d_RL_readAgain_1 : decode b_RL_readAgain 1 = .ok (.getfield 27, 3) := by decide +kernel
theorem d_RL_readAgain_4 : decode b_RL_readAgain 4 = .ok (.iload_n 1, 1) := by decide +kernel
theorem d_RL_readAgain_5 : decode b_RL_readAgain 5 = .ok (.invokestatic 53, 3) := by decide +kernel
theorem d_RL_readAgain_8 : decode b_RL_readAgain 8 = .ok (.istore_n 2, 1) := by decide +kernel
theorem d_RL_readAgain_9 : decode b_RL_readAgain 9 = .ok (.aload_n 0, 1) := by decide +kernel
theorem d_RL_readAgain_10 : decode b_RL_readAgain 10 = .ok (.getfield 15, 3) := by decide +kernel
theorem d_RL_readAgain_13 : decode b_RL_readAgain 13 = .ok (.iconst (-1), 1) := by decide +kernel
theorem d_RL_readAgain_14 : decode b_RL_readAgain 14 = .ok (.invokestatic 21, 3) := by decide +kernel
theorem d_RL_readAgain_17 : decode b_RL_readAgain 17 = .ok (.aload_n 0, 1) := by decide +kernel
theorem d_RL_readAgain_18 : decode b_RL_readAgain 18 = .ok (.iconst (0), 1) := by decide +kernel
theorem d_RL_readAgain_19 : decode b_RL_readAgain 19 = .ok (.putfield 27, 3) := by decide +kernel
theorem d_RL_readAgain_22 : decode b_RL_readAgain 22 = .ok (.iconst (0), 1) := by decide +kernel
theorem d_RL_readAgain_23 : decode b_RL_readAgain 23 = .ok (.istore_n 3, 1) := by decide +kernel
theorem d_RL_readAgain_24 : decode b_RL_readAgain 24 = .ok (.iload_n 3, 1) := by decide +kernel
theorem d_RL_readAgain_25 : decode b_RL_readAgain 25 = .ok (.bipush (8), 2) := by decide +kernel
theorem d_RL_readAgain_27 : decode b_RL_readAgain 27 = .ok (.iadd, 1) := by decide +kernel
theorem d_RL_readAgain_28 : decode b_RL_readAgain 28 = .ok (.iload_n 2, 1) := by decide +kernel
theorem d_RL_readAgain_29 : decode b_RL_readAgain 29 = .ok (.if_icmp .gt (30), 3) := by decide +kernel
theorem d_RL_readAgain_59 : decode b_RL_readAgain 59 = .ok (.return_, 1) := by decide +kernel
set_option maxRecDepth 20000 in
set_option maxHeartbeats 4000000 in
theorem c_RL_readAgain (l : Launch) (D : va_G) (rl : Nat) (rc : Nat) (rb : Nat) (rt : Nat) (cI : ClassId) (x : Int32) (sz : Nat) (h : ¬ x < 0) : xMv l y_RL_readAgain w_RL_readAgain { frames := 1, cells := 0, slots := 0, locals := 40 } D cl [.ref rl, .int x] sz [(cI, .int)] [(rl, .inr (4, [.ref rb, .ref rc, .ref rt, .int 0])), (rc, .inl (cI, 24, .inl (fun _ => (-1))))] (fun (_ : Unit) => True) (fun _ => [(rl, .inr (4, [.ref rb, .ref rc, .ref rt, .int 0]))]) (fun _ => []) := by
  refine xMv_of (by decide +kernel) rfl (Nat.le_of_ble_eq_true rfl) ?_
  intro p e s m args below meth c ls A B hAe hA hsz hP hK hD hS hAm hTh hAs hl
  obtain ⟨⟨hx, hb, hml, hown, hts⟩, hret, hlk, hnm, hemp⟩ := id B
  have hl : lv_has ls 4 [(0, .ref rl), (1, .int x)] := hl
  refine lv_aload_n hx hb d_RL_readAgain_0 rfl (lv_at hl 0 rfl) ?_
  refine va_get (D := D) (ci := 4) (v := .int 0) (C := R_RL) (T := F_RL) (N := 4) hx hb hts (fun w h => List.mem_cons_of_mem _ (u_RL w h)) hown hK hP 0 rfl rfl 3 (by decide) (hts _ (List.mem_cons_of_mem _ tw_111)) (fun _ h9 => h9) rfl d_RL_readAgain_1 ?_
  refine lv_iload_n hx hb d_RL_readAgain_4 rfl (lv_at hl 1 rfl) ?_
  refine va_mmin hx hb (hml.trans hl.1.symm) hown (hts _ (List.mem_cons_of_mem _ tw_639)) (hts _ (List.mem_cons_of_mem _ tw_640)) (hts _ (List.mem_cons_of_mem _ tw_16)) (hts _ (List.mem_cons_of_mem _ tw_641)) (Nat.le_of_ble_eq_true rfl) (Nat.le_of_ble_eq_true rfl) (Nat.le_of_ble_eq_true rfl) (Nat.le_of_ble_eq_true rfl) d_RL_readAgain_5 ?_
  refine xnum (v := 0) (if_neg h) ?_
  refine lv_istore_n hx hb d_RL_readAgain_8 rfl hl (by decide) rfl (fun ls hl => ?_)
  have hl : lv_has ls 4 [(2, .int 0), (0, .ref rl), (1, .int x)] := hl
  refine lv_aload_n hx hb d_RL_readAgain_9 rfl (lv_at hl 1 rfl) ?_
  refine va_get (D := D) (ci := 4) (v := .ref rc) (C := R_RL) (T := F_RL) (N := 4) hx hb hts (fun w h => List.mem_cons_of_mem _ (u_RL w h)) hown hK hP 0 rfl rfl 1 (by decide) (hts _ (List.mem_cons_of_mem _ tw_107)) (fun _ h9 => h9) rfl d_RL_readAgain_10 ?_
  refine lv_iconst (v := (-1)) hx hb d_RL_readAgain_13 (by decide) ?_
  have hPc := hP.sub (ws' := [(rc, .inl (cI, 24, .inl (fun _ => (-1))))]) [1] rfl
  have hDc := hD.sub (ws' := [(rc, .inl (cI, 24, .inl (fun _ => (-1))))]) [1] (by decide) rfl
  have hKc := hK.sub (tys' := [(cI, .int)]) [0] rfl
  refine xgv (wsC := [(rc, .inl (cI, 24, .inl (fun _ => (-1))))]) (wr := [(rl, .inr (4, [.ref rb, .ref rc, .ref rt, .int 0]))]) (va_runS (As := [.ref rc, .int (-1)]) (rest := []) ⟨hx, hb, hml, hown, hts⟩ (c_Ar_fill l D rc cI 24 (fun _ => (-1)) (-1) _ (by decide)) ⟨(callB_of 2 hts (x_good k_Ar_fill) rfl rfl rfl (hts _ (List.mem_cons_of_mem _ tw_6)) (hts _ (List.mem_cons_of_mem _ tw_102)) (by decide +kernel) ⟨Nat.le_of_ble_eq_true rfl, Nat.le_of_ble_eq_true rfl⟩), (hts _ (List.mem_cons_of_mem _ tw_103))⟩ (xP_S hPc hKc hDc hAm hTh hAs hS) rfl rfl hl.1 rfl (lv_room (Nat.le_of_ble_eq_true rfl)) d_RL_readAgain_14 ⟨Nat.le_of_ble_eq_true rfl, Nat.le_of_ble_eq_true rfl⟩) hP hD hK hS hA [1] [0] rfl rfl (by decide) (by decide) (fun _ H locs _ hP hD hK hS => ?_)
  have hK : va_K D cl [(cI, .int)] s := hK
  have hP : va_P D cl [(rl, .inr (4, [.ref rb, .ref rc, .ref rt, .int 0])), (rc, .inl (cI, 24, .inl (fun _ => (-1))))] H := hP
  have hD : va_D A [(rl, .inr (4, [.ref rb, .ref rc, .ref rt, .int 0])), (rc, .inl (cI, 24, .inl (fun _ => (-1))))] := hD
  refine lv_aload_n hx hb d_RL_readAgain_17 rfl (lv_at hl 1 rfl) ?_
  refine lv_iconst (v := 0) hx hb d_RL_readAgain_18 (by decide) ?_
  refine va_put (D := D) (ci := 4) (v := .int 0) (ty := .int) (C := R_RL) (T := F_RL) (N := 4) hx hb hts (fun w h => List.mem_cons_of_mem _ (u_RL w h)) t_RL o_RL n_RL hown hK hP hD hS 0 rfl rfl 3 (by decide) (hts _ (List.mem_cons_of_mem _ tw_111)) (fun _ h9 => h9) rfl (by decide +kernel) rfl rfl (Nat.le_of_ble_eq_true rfl) d_RL_readAgain_19 (fun H locs hP hD hS => ?_)
  have hP : va_P D cl [(rl, .inr (4, [.ref rb, .ref rc, .ref rt, .int 0])), (rc, .inl (cI, 24, .inl (fun _ => (-1))))] H := hP
  have hD : va_D A [(rl, .inr (4, [.ref rb, .ref rc, .ref rt, .int 0])), (rc, .inl (cI, 24, .inl (fun _ => (-1))))] := hD
  refine lv_iconst (v := 0) hx hb d_RL_readAgain_22 (by decide) ?_
  refine lv_istore_n hx hb d_RL_readAgain_23 rfl hl (by decide) rfl (fun ls hl => ?_)
  have hl : lv_has ls 4 [(3, .int 0), (2, .int 0), (0, .ref rl), (1, .int x)] := hl
  refine lv_iload_n hx hb d_RL_readAgain_24 rfl (lv_at hl 0 rfl) ?_
  refine lv_bipush (v := 8) hx hb d_RL_readAgain_25 (by decide) ?_
  refine lv_iadd hx hb d_RL_readAgain_27 ?_
  refine xnum (v := 8) (by decide) ?_
  refine lv_iload_n hx hb d_RL_readAgain_28 rfl (lv_at hl 1 rfl) ?_
  refine lv_icmp_gt (tgt := 59) hx hb d_RL_readAgain_29 (by decide) (fun b29 => ?_) (fun b29 => absurd b29 (by decide))
  exact xrv () B d_RL_readAgain_59 (trivial) (hP.sub (ws' := [(rl, .inr (4, [.ref rb, .ref rc, .ref rt, .int 0]))]) [0] rfl) (hK.sub (tys' := []) [] rfl) (hD.sub (ws' := [(rl, .inr (4, [.ref rb, .ref rc, .ref rt, .int 0]))]) [0] (by decide) rfl) hS (Nat.le_of_ble_eq_true rfl) (Nat.le_of_ble_eq_true rfl)
theorem d_Re_forget_0 : decode b_Re_forget 0 = .ok (.iconst (0), 1) := by decide +kernel
theorem d_Re_forget_1 : decode b_Re_forget 1 = .ok (.istore_n 1, 1) := by decide +kernel
theorem d_Re_forget_2 : decode b_Re_forget 2 = .ok (.iload_n 1, 1) := by decide +kernel
theorem d_Re_forget_3 : decode b_Re_forget 3 = .ok (.bipush (12), 2) := by decide +kernel
theorem d_Re_forget_5 : decode b_Re_forget 5 = .ok (.if_icmp .ge (23), 3) := by decide +kernel
theorem d_Re_forget_8 : decode b_Re_forget 8 = .ok (.aload_n 0, 1) := by decide +kernel
theorem d_Re_forget_9 : decode b_Re_forget 9 = .ok (.getfield 9, 3) := by decide +kernel
theorem d_Re_forget_12 : decode b_Re_forget 12 = .ok (.iload_n 1, 1) := by decide +kernel
theorem d_Re_forget_13 : decode b_Re_forget 13 = .ok (.iconst (0), 1) := by decide +kernel
theorem d_Re_forget_14 : decode b_Re_forget 14 = .ok (.iastore, 1) := by decide +kernel
theorem d_Re_forget_15 : decode b_Re_forget 15 = .ok (.aload_n 0, 1) := by decide +kernel
theorem d_Re_forget_16 : decode b_Re_forget 16 = .ok (.getfield 15, 3) := by decide +kernel
theorem d_Re_forget_19 : decode b_Re_forget 19 = .ok (.iload_n 1, 1) := by decide +kernel
theorem d_Re_forget_20 : decode b_Re_forget 20 = .ok (.iconst (0), 1) := by decide +kernel
theorem d_Re_forget_21 : decode b_Re_forget 21 = .ok (.bastore, 1) := by decide +kernel
theorem d_Re_forget_22 : decode b_Re_forget 22 = .ok (.iinc 1 (1), 3) := by decide +kernel
theorem d_Re_forget_25 : decode b_Re_forget 25 = .ok (.goto (-23), 3) := by decide +kernel
theorem d_Re_forget_28 : decode b_Re_forget 28 = .ok (.return_, 1) := by decide +kernel
set_option maxRecDepth 20000 in
set_option maxHeartbeats 4000000 in
theorem c_Re_forget (l : Launch) (D : va_G) (re : Nat) (rr : Nat) (rk : Nat) (cI : ClassId) (cZ : ClassId) (sz : Nat)  : xMv l y_Re_forget w_Re_forget { frames := 0, cells := 0, slots := 0, locals := 0 } D cl [.ref re] sz [(cI, .int), (cZ, .boolean)] [(re, .inr (3, [.ref rr, .ref rk])), (rr, .inl (cI, 12, .inl (fun _ => 0))), (rk, .inl (cZ, 12, .inl (fun _ => 0)))] (fun (_ : Unit) => True) (fun _ => []) (fun _ => []) := by
  refine xMv_of (by decide +kernel) rfl (Nat.le_of_ble_eq_true rfl) ?_
  intro p e s m args below meth c ls A B hAe hA hsz hP hK hD hS hAm hTh hAs hl
  obtain ⟨⟨hx, hb, hml, hown, hts⟩, hret, hlk, hnm, hemp⟩ := id B
  have hl : lv_has ls 2 [(0, .ref re)] := hl
  refine lv_iconst (v := 0) hx hb d_Re_forget_0 (by decide) ?_
  refine lv_istore_n hx hb d_Re_forget_1 rfl hl (by decide) rfl (fun ls hl => ?_)
  have hl : lv_has ls 2 [(1, .int 0), (0, .ref re)] := hl
  refine lv_iload_n hx hb d_Re_forget_2 rfl (lv_at hl 0 rfl) ?_
  refine lv_bipush (v := 12) hx hb d_Re_forget_3 (by decide) ?_
  refine lv_icmp_ge (tgt := 28) hx hb d_Re_forget_5 (by decide) (fun b5 => absurd b5 (by decide)) (fun b5 => ?_)
  refine lv_aload_n hx hb d_Re_forget_8 rfl (lv_at hl 1 rfl) ?_
  refine va_get (D := D) (ci := 3) (v := .ref rr) (C := R_Re) (T := F_Re) (N := 2) hx hb hts (fun w h => List.mem_cons_of_mem _ (u_Re w h)) hown hK hP 0 rfl rfl 0 (by decide) (hts _ (List.mem_cons_of_mem _ tw_86)) (fun _ h9 => h9) rfl d_Re_forget_9 ?_
  refine lv_iload_n hx hb d_Re_forget_12 rfl (lv_at hl 0 rfl) ?_
  refine lv_iconst (v := 0) hx hb d_Re_forget_13 (by decide) ?_
  refine va_iast hx hb hK hP hD hS 1 0 rfl rfl (by unfold vp_in; decide) d_Re_forget_14 (fun H locs hP hD hS => ?_)
  have hP : va_P D cl [(re, .inr (3, [.ref rr, .ref rk])), (rr, .inl (cI, 12, .inl (upd (fun _ => 0) (0 : Int32).toNatClampNeg 0))), (rk, .inl (cZ, 12, .inl (fun _ => 0)))] H := hP
  have hD : va_D A [(re, .inr (3, [.ref rr, .ref rk])), (rr, .inl (cI, 12, .inl (upd (fun _ => 0) (0 : Int32).toNatClampNeg 0))), (rk, .inl (cZ, 12, .inl (fun _ => 0)))] := hD
  refine lv_aload_n hx hb d_Re_forget_15 rfl (lv_at hl 1 rfl) ?_
  refine va_get (D := D) (ci := 3) (v := .ref rk) (C := R_Re) (T := F_Re) (N := 2) hx hb hts (fun w h => List.mem_cons_of_mem _ (u_Re w h)) hown hK hP 0 rfl rfl 1 (by decide) (hts _ (List.mem_cons_of_mem _ tw_88)) (fun _ h9 => h9) rfl d_Re_forget_16 ?_
  refine lv_iload_n hx hb d_Re_forget_19 rfl (lv_at hl 0 rfl) ?_
  refine lv_iconst (v := 0) hx hb d_Re_forget_20 (by decide) ?_
  refine va_zast hx hb hK hP hD hS 2 1 rfl rfl (by unfold vp_in; decide) d_Re_forget_21 (fun H locs hP hD hS => ?_)
  have hP : va_P D cl [(re, .inr (3, [.ref rr, .ref rk])), (rr, .inl (cI, 12, .inl (upd (fun _ => 0) (0 : Int32).toNatClampNeg 0))), (rk, .inl (cZ, 12, .inl (upd (fun _ => 0) (0 : Int32).toNatClampNeg (vp_nar .boolean 0))))] H := hP
  have hD : va_D A [(re, .inr (3, [.ref rr, .ref rk])), (rr, .inl (cI, 12, .inl (upd (fun _ => 0) (0 : Int32).toNatClampNeg 0))), (rk, .inl (cZ, 12, .inl (upd (fun _ => 0) (0 : Int32).toNatClampNeg (vp_nar .boolean 0))))] := hD
  refine lv_iinc (k := 0) (v := 1) hx hb d_Re_forget_22 hl rfl (by decide) (by decide) rfl (fun ls hl => ?_)
  have hl : lv_has ls 2 [(1, .int 1), (0, .ref re)] := hl
  refine lv_goto (tgt := 2) hx hb d_Re_forget_25 (by decide) ?_
  refine lv_iload_n hx hb d_Re_forget_2 rfl (lv_at hl 0 rfl) ?_
  refine lv_bipush (v := 12) hx hb d_Re_forget_3 (by decide) ?_
  refine lv_icmp_ge (tgt := 28) hx hb d_Re_forget_5 (by decide) (fun b5 => absurd b5 (by decide)) (fun b5 => ?_)
  refine lv_aload_n hx hb d_Re_forget_8 rfl (lv_at hl 1 rfl) ?_
  refine va_get (D := D) (ci := 3) (v := .ref rr) (C := R_Re) (T := F_Re) (N := 2) hx hb hts (fun w h => List.mem_cons_of_mem _ (u_Re w h)) hown hK hP 0 rfl rfl 0 (by decide) (hts _ (List.mem_cons_of_mem _ tw_86)) (fun _ h9 => h9) rfl d_Re_forget_9 ?_
  refine lv_iload_n hx hb d_Re_forget_12 rfl (lv_at hl 0 rfl) ?_
  refine lv_iconst (v := 0) hx hb d_Re_forget_13 (by decide) ?_
  refine va_iast hx hb hK hP hD hS 1 0 rfl rfl (by unfold vp_in; decide) d_Re_forget_14 (fun H locs hP hD hS => ?_)
  have hP : va_P D cl [(re, .inr (3, [.ref rr, .ref rk])), (rr, .inl (cI, 12, .inl (upd (upd (fun _ => 0) (0 : Int32).toNatClampNeg 0) (1 : Int32).toNatClampNeg 0))), (rk, .inl (cZ, 12, .inl (upd (fun _ => 0) (0 : Int32).toNatClampNeg (vp_nar .boolean 0))))] H := hP
  have hD : va_D A [(re, .inr (3, [.ref rr, .ref rk])), (rr, .inl (cI, 12, .inl (upd (upd (fun _ => 0) (0 : Int32).toNatClampNeg 0) (1 : Int32).toNatClampNeg 0))), (rk, .inl (cZ, 12, .inl (upd (fun _ => 0) (0 : Int32).toNatClampNeg (vp_nar .boolean 0))))] := hD
  refine lv_aload_n hx hb d_Re_forget_15 rfl (lv_at hl 1 rfl) ?_
  refine va_get (D := D) (ci := 3) (v := .ref rk) (C := R_Re) (T := F_Re) (N := 2) hx hb hts (fun w h => List.mem_cons_of_mem _ (u_Re w h)) hown hK hP 0 rfl rfl 1 (by decide) (hts _ (List.mem_cons_of_mem _ tw_88)) (fun _ h9 => h9) rfl d_Re_forget_16 ?_
  refine lv_iload_n hx hb d_Re_forget_19 rfl (lv_at hl 0 rfl) ?_
  refine lv_iconst (v := 0) hx hb d_Re_forget_20 (by decide) ?_
  refine va_zast hx hb hK hP hD hS 2 1 rfl rfl (by unfold vp_in; decide) d_Re_forget_21 (fun H locs hP hD hS => ?_)
  have hP : va_P D cl [(re, .inr (3, [.ref rr, .ref rk])), (rr, .inl (cI, 12, .inl (upd (upd (fun _ => 0) (0 : Int32).toNatClampNeg 0) (1 : Int32).toNatClampNeg 0))), (rk, .inl (cZ, 12, .inl (upd (upd (fun _ => 0) (0 : Int32).toNatClampNeg (vp_nar .boolean 0)) (1 : Int32).toNatClampNeg (vp_nar .boolean 0))))] H := hP
  have hD : va_D A [(re, .inr (3, [.ref rr, .ref rk])), (rr, .inl (cI, 12, .inl (upd (upd (fun _ => 0) (0 : Int32).toNatClampNeg 0) (1 : Int32).toNatClampNeg 0))), (rk, .inl (cZ, 12, .inl (upd (upd (fun _ => 0) (0 : Int32).toNatClampNeg (vp_nar .boolean 0)) (1 : Int32).toNatClampNeg (vp_nar .boolean 0))))] := hD
  refine lv_iinc (k := 0) (v := 2) hx hb d_Re_forget_22 hl rfl (by decide) (by decide) rfl (fun ls hl => ?_)
  have hl : lv_has ls 2 [(1, .int 2), (0, .ref re)] := hl
  refine lv_goto (tgt := 2) hx hb d_Re_forget_25 (by decide) ?_
  refine lv_iload_n hx hb d_Re_forget_2 rfl (lv_at hl 0 rfl) ?_
  refine lv_bipush (v := 12) hx hb d_Re_forget_3 (by decide) ?_
  refine lv_icmp_ge (tgt := 28) hx hb d_Re_forget_5 (by decide) (fun b5 => absurd b5 (by decide)) (fun b5 => ?_)
  refine lv_aload_n hx hb d_Re_forget_8 rfl (lv_at hl 1 rfl) ?_
  refine va_get (D := D) (ci := 3) (v := .ref rr) (C := R_Re) (T := F_Re) (N := 2) hx hb hts (fun w h => List.mem_cons_of_mem _ (u_Re w h)) hown hK hP 0 rfl rfl 0 (by decide) (hts _ (List.mem_cons_of_mem _ tw_86)) (fun _ h9 => h9) rfl d_Re_forget_9 ?_
  refine lv_iload_n hx hb d_Re_forget_12 rfl (lv_at hl 0 rfl) ?_
  refine lv_iconst (v := 0) hx hb d_Re_forget_13 (by decide) ?_
  refine va_iast hx hb hK hP hD hS 1 0 rfl rfl (by unfold vp_in; decide) d_Re_forget_14 (fun H locs hP hD hS => ?_)
  have hP : va_P D cl [(re, .inr (3, [.ref rr, .ref rk])), (rr, .inl (cI, 12, .inl (upd (upd (upd (fun _ => 0) (0 : Int32).toNatClampNeg 0) (1 : Int32).toNatClampNeg 0) (2 : Int32).toNatClampNeg 0))), (rk, .inl (cZ, 12, .inl (upd (upd (fun _ => 0) (0 : Int32).toNatClampNeg (vp_nar .boolean 0)) (1 : Int32).toNatClampNeg (vp_nar .boolean 0))))] H := hP
  have hD : va_D A [(re, .inr (3, [.ref rr, .ref rk])), (rr, .inl (cI, 12, .inl (upd (upd (upd (fun _ => 0) (0 : Int32).toNatClampNeg 0) (1 : Int32).toNatClampNeg 0) (2 : Int32).toNatClampNeg 0))), (rk, .inl (cZ, 12, .inl (upd (upd (fun _ => 0) (0 : Int32).toNatClampNeg (vp_nar .boolean 0)) (1 : Int32).toNatClampNeg (vp_nar .boolean 0))))] := hD
  refine lv_aload_n hx hb d_Re_forget_15 rfl (lv_at hl 1 rfl) ?_
  refine va_get (D := D) (ci := 3) (v := .ref rk) (C := R_Re) (T := F_Re) (N := 2) hx hb hts (fun w h => List.mem_cons_of_mem _ (u_Re w h)) hown hK hP 0 rfl rfl 1 (by decide) (hts _ (List.mem_cons_of_mem _ tw_88)) (fun _ h9 => h9) rfl d_Re_forget_16 ?_
  refine lv_iload_n hx hb d_Re_forget_19 rfl (lv_at hl 0 rfl) ?_
  refine lv_iconst (v := 0) hx hb d_Re_forget_20 (by decide) ?_
  refine va_zast hx hb hK hP hD hS 2 1 rfl rfl (by unfold vp_in; decide) d_Re_forget_21 (fun H locs hP hD hS => ?_)
  have hP : va_P D cl [(re, .inr (3, [.ref rr, .ref rk])), (rr, .inl (cI, 12, .inl (upd (upd (upd (fun _ => 0) (0 : Int32).toNatClampNeg 0) (1 : Int32).toNatClampNeg 0) (2 : Int32).toNatClampNeg 0))), (rk, .inl (cZ, 12, .inl (upd (upd (upd (fun _ => 0) (0 : Int32).toNatClampNeg (vp_nar .boolean 0)) (1 : Int32).toNatClampNeg (vp_nar .boolean 0)) (2 : Int32).toNatClampNeg (vp_nar .boolean 0))))] H := hP
  have hD : va_D A [(re, .inr (3, [.ref rr, .ref rk])), (rr, .inl (cI, 12, .inl (upd (upd (upd (fun _ => 0) (0 : Int32).toNatClampNeg 0) (1 : Int32).toNatClampNeg 0) (2 : Int32).toNatClampNeg 0))), (rk, .inl (cZ, 12, .inl (upd (upd (upd (fun _ => 0) (0 : Int32).toNatClampNeg (vp_nar .boolean 0)) (1 : Int32).toNatClampNeg (vp_nar .boolean 0)) (2 : Int32).toNatClampNeg (vp_nar .boolean 0))))] := hD
  refine lv_iinc (k := 0) (v := 3) hx hb d_Re_forget_22 hl rfl (by decide) (by decide) rfl (fun ls hl => ?_)
  have hl : lv_has ls 2 [(1, .int 3), (0, .ref re)] := hl
  refine lv_goto (tgt := 2) hx hb d_Re_forget_25 (by decide) ?_
  refine lv_iload_n hx hb d_Re_forget_2 rfl (lv_at hl 0 rfl) ?_
  refine lv_bipush (v := 12) hx hb d_Re_forget_3 (by decide) ?_
  refine lv_icmp_ge (tgt := 28) hx hb d_Re_forget_5 (by decide) (fun b5 => absurd b5 (by decide)) (fun b5 => ?_)
  refine lv_aload_n hx hb d_Re_forget_8 rfl (lv_at hl 1 rfl) ?_
  refine va_get (D := D) (ci := 3) (v := .ref rr) (C := R_Re) (T := F_Re) (N := 2) hx hb hts (fun w h => List.mem_cons_of_mem _ (u_Re w h)) hown hK hP 0 rfl rfl 0 (by decide) (hts _ (List.mem_cons_of_mem _ tw_86)) (fun _ h9 => h9) rfl d_Re_forget_9 ?_
  refine lv_iload_n hx hb d_Re_forget_12 rfl (lv_at hl 0 rfl) ?_
  refine lv_iconst (v := 0) hx hb d_Re_forget_13 (by decide) ?_
  refine va_iast hx hb hK hP hD hS 1 0 rfl rfl (by unfold vp_in; decide) d_Re_forget_14 (fun H locs hP hD hS => ?_)
  have hP : va_P D cl [(re, .inr (3, [.ref rr, .ref rk])), (rr, .inl (cI, 12, .inl (upd (upd (upd (upd (fun _ => 0) (0 : Int32).toNatClampNeg 0) (1 : Int32).toNatClampNeg 0) (2 : Int32).toNatClampNeg 0) (3 : Int32).toNatClampNeg 0))), (rk, .inl (cZ, 12, .inl (upd (upd (upd (fun _ => 0) (0 : Int32).toNatClampNeg (vp_nar .boolean 0)) (1 : Int32).toNatClampNeg (vp_nar .boolean 0)) (2 : Int32).toNatClampNeg (vp_nar .boolean 0))))] H := hP
  have hD : va_D A [(re, .inr (3, [.ref rr, .ref rk])), (rr, .inl (cI, 12, .inl (upd (upd (upd (upd (fun _ => 0) (0 : Int32).toNatClampNeg 0) (1 : Int32).toNatClampNeg 0) (2 : Int32).toNatClampNeg 0) (3 : Int32).toNatClampNeg 0))), (rk, .inl (cZ, 12, .inl (upd (upd (upd (fun _ => 0) (0 : Int32).toNatClampNeg (vp_nar .boolean 0)) (1 : Int32).toNatClampNeg (vp_nar .boolean 0)) (2 : Int32).toNatClampNeg (vp_nar .boolean 0))))] := hD
  refine lv_aload_n hx hb d_Re_forget_15 rfl (lv_at hl 1 rfl) ?_
  refine va_get (D := D) (ci := 3) (v := .ref rk) (C := R_Re) (T := F_Re) (N := 2) hx hb hts (fun w h => List.mem_cons_of_mem _ (u_Re w h)) hown hK hP 0 rfl rfl 1 (by decide) (hts _ (List.mem_cons_of_mem _ tw_88)) (fun _ h9 => h9) rfl d_Re_forget_16 ?_
  refine lv_iload_n hx hb d_Re_forget_19 rfl (lv_at hl 0 rfl) ?_
  refine lv_iconst (v := 0) hx hb d_Re_forget_20 (by decide) ?_
  refine va_zast hx hb hK hP hD hS 2 1 rfl rfl (by unfold vp_in; decide) d_Re_forget_21 (fun H locs hP hD hS => ?_)
  have hP : va_P D cl [(re, .inr (3, [.ref rr, .ref rk])), (rr, .inl (cI, 12, .inl (upd (upd (upd (upd (fun _ => 0) (0 : Int32).toNatClampNeg 0) (1 : Int32).toNatClampNeg 0) (2 : Int32).toNatClampNeg 0) (3 : Int32).toNatClampNeg 0))), (rk, .inl (cZ, 12, .inl (upd (upd (upd (upd (fun _ => 0) (0 : Int32).toNatClampNeg (vp_nar .boolean 0)) (1 : Int32).toNatClampNeg (vp_nar .boolean 0)) (2 : Int32).toNatClampNeg (vp_nar .boolean 0)) (3 : Int32).toNatClampNeg (vp_nar .boolean 0))))] H := hP
  have hD : va_D A [(re, .inr (3, [.ref rr, .ref rk])), (rr, .inl (cI, 12, .inl (upd (upd (upd (upd (fun _ => 0) (0 : Int32).toNatClampNeg 0) (1 : Int32).toNatClampNeg 0) (2 : Int32).toNatClampNeg 0) (3 : Int32).toNatClampNeg 0))), (rk, .inl (cZ, 12, .inl (upd (upd (upd (upd (fun _ => 0) (0 : Int32).toNatClampNeg (vp_nar .boolean 0)) (1 : Int32).toNatClampNeg (vp_nar .boolean 0)) (2 : Int32).toNatClampNeg (vp_nar .boolean 0)) (3 : Int32).toNatClampNeg (vp_nar .boolean 0))))] := hD
  refine lv_iinc (k := 0) (v := 4) hx hb d_Re_forget_22 hl rfl (by decide) (by decide) rfl (fun ls hl => ?_)
  have hl : lv_has ls 2 [(1, .int 4), (0, .ref re)] := hl
  refine lv_goto (tgt := 2) hx hb d_Re_forget_25 (by decide) ?_
  refine lv_iload_n hx hb d_Re_forget_2 rfl (lv_at hl 0 rfl) ?_
  refine lv_bipush (v := 12) hx hb d_Re_forget_3 (by decide) ?_
  refine lv_icmp_ge (tgt := 28) hx hb d_Re_forget_5 (by decide) (fun b5 => absurd b5 (by decide)) (fun b5 => ?_)
  refine lv_aload_n hx hb d_Re_forget_8 rfl (lv_at hl 1 rfl) ?_
  refine va_get (D := D) (ci := 3) (v := .ref rr) (C := R_Re) (T := F_Re) (N := 2) hx hb hts (fun w h => List.mem_cons_of_mem _ (u_Re w h)) hown hK hP 0 rfl rfl 0 (by decide) (hts _ (List.mem_cons_of_mem _ tw_86)) (fun _ h9 => h9) rfl d_Re_forget_9 ?_
  refine lv_iload_n hx hb d_Re_forget_12 rfl (lv_at hl 0 rfl) ?_
  refine lv_iconst (v := 0) hx hb d_Re_forget_13 (by decide) ?_
  refine va_iast hx hb hK hP hD hS 1 0 rfl rfl (by unfold vp_in; decide) d_Re_forget_14 (fun H locs hP hD hS => ?_)
  have hP : va_P D cl [(re, .inr (3, [.ref rr, .ref rk])), (rr, .inl (cI, 12, .inl (upd (upd (upd (upd (upd (fun _ => 0) (0 : Int32).toNatClampNeg 0) (1 : Int32).toNatClampNeg 0) (2 : Int32).toNatClampNeg 0) (3 : Int32).toNatClampNeg 0) (4 : Int32).toNatClampNeg 0))), (rk, .inl (cZ, 12, .inl (upd (upd (upd (upd (fun _ => 0) (0 : Int32).toNatClampNeg (vp_nar .boolean 0)) (1 : Int32).toNatClampNeg (vp_nar .boolean 0)) (2 : Int32).toNatClampNeg (vp_nar .boolean 0)) (3 : Int32).toNatClampNeg (vp_nar .boolean 0))))] H := hP
  have hD : va_D A [(re, .inr (3, [.ref rr, .ref rk])), (rr, .inl (cI, 12, .inl (upd (upd (upd (upd (upd (fun _ => 0) (0 : Int32).toNatClampNeg 0) (1 : Int32).toNatClampNeg 0) (2 : Int32).toNatClampNeg 0) (3 : Int32).toNatClampNeg 0) (4 : Int32).toNatClampNeg 0))), (rk, .inl (cZ, 12, .inl (upd (upd (upd (upd (fun _ => 0) (0 : Int32).toNatClampNeg (vp_nar .boolean 0)) (1 : Int32).toNatClampNeg (vp_nar .boolean 0)) (2 : Int32).toNatClampNeg (vp_nar .boolean 0)) (3 : Int32).toNatClampNeg (vp_nar .boolean 0))))] := hD
  refine lv_aload_n hx hb d_Re_forget_15 rfl (lv_at hl 1 rfl) ?_
  refine va_get (D := D) (ci := 3) (v := .ref rk) (C := R_Re) (T := F_Re) (N := 2) hx hb hts (fun w h => List.mem_cons_of_mem _ (u_Re w h)) hown hK hP 0 rfl rfl 1 (by decide) (hts _ (List.mem_cons_of_mem _ tw_88)) (fun _ h9 => h9) rfl d_Re_forget_16 ?_
  refine lv_iload_n hx hb d_Re_forget_19 rfl (lv_at hl 0 rfl) ?_
  refine lv_iconst (v := 0) hx hb d_Re_forget_20 (by decide) ?_
  refine va_zast hx hb hK hP hD hS 2 1 rfl rfl (by unfold vp_in; decide) d_Re_forget_21 (fun H locs hP hD hS => ?_)
  have hP : va_P D cl [(re, .inr (3, [.ref rr, .ref rk])), (rr, .inl (cI, 12, .inl (upd (upd (upd (upd (upd (fun _ => 0) (0 : Int32).toNatClampNeg 0) (1 : Int32).toNatClampNeg 0) (2 : Int32).toNatClampNeg 0) (3 : Int32).toNatClampNeg 0) (4 : Int32).toNatClampNeg 0))), (rk, .inl (cZ, 12, .inl (upd (upd (upd (upd (upd (fun _ => 0) (0 : Int32).toNatClampNeg (vp_nar .boolean 0)) (1 : Int32).toNatClampNeg (vp_nar .boolean 0)) (2 : Int32).toNatClampNeg (vp_nar .boolean 0)) (3 : Int32).toNatClampNeg (vp_nar .boolean 0)) (4 : Int32).toNatClampNeg (vp_nar .boolean 0))))] H := hP
  have hD : va_D A [(re, .inr (3, [.ref rr, .ref rk])), (rr, .inl (cI, 12, .inl (upd (upd (upd (upd (upd (fun _ => 0) (0 : Int32).toNatClampNeg 0) (1 : Int32).toNatClampNeg 0) (2 : Int32).toNatClampNeg 0) (3 : Int32).toNatClampNeg 0) (4 : Int32).toNatClampNeg 0))), (rk, .inl (cZ, 12, .inl (upd (upd (upd (upd (upd (fun _ => 0) (0 : Int32).toNatClampNeg (vp_nar .boolean 0)) (1 : Int32).toNatClampNeg (vp_nar .boolean 0)) (2 : Int32).toNatClampNeg (vp_nar .boolean 0)) (3 : Int32).toNatClampNeg (vp_nar .boolean 0)) (4 : Int32).toNatClampNeg (vp_nar .boolean 0))))] := hD
  refine lv_iinc (k := 0) (v := 5) hx hb d_Re_forget_22 hl rfl (by decide) (by decide) rfl (fun ls hl => ?_)
  have hl : lv_has ls 2 [(1, .int 5), (0, .ref re)] := hl
  refine lv_goto (tgt := 2) hx hb d_Re_forget_25 (by decide) ?_
  refine lv_iload_n hx hb d_Re_forget_2 rfl (lv_at hl 0 rfl) ?_
  refine lv_bipush (v := 12) hx hb d_Re_forget_3 (by decide) ?_
  refine lv_icmp_ge (tgt := 28) hx hb d_Re_forget_5 (by decide) (fun b5 => absurd b5 (by decide)) (fun b5 => ?_)
  refine lv_aload_n hx hb d_Re_forget_8 rfl (lv_at hl 1 rfl) ?_
  refine va_get (D := D) (ci := 3) (v := .ref rr) (C := R_Re) (T := F_Re) (N := 2) hx hb hts (fun w h => List.mem_cons_of_mem _ (u_Re w h)) hown hK hP 0 rfl rfl 0 (by decide) (hts _ (List.mem_cons_of_mem _ tw_86)) (fun _ h9 => h9) rfl d_Re_forget_9 ?_
  refine lv_iload_n hx hb d_Re_forget_12 rfl (lv_at hl 0 rfl) ?_
  refine lv_iconst (v := 0) hx hb d_Re_forget_13 (by decide) ?_
  refine va_iast hx hb hK hP hD hS 1 0 rfl rfl (by unfold vp_in; decide) d_Re_forget_14 (fun H locs hP hD hS => ?_)
  have hP : va_P D cl [(re, .inr (3, [.ref rr, .ref rk])), (rr, .inl (cI, 12, .inl (upd (upd (upd (upd (upd (upd (fun _ => 0) (0 : Int32).toNatClampNeg 0) (1 : Int32).toNatClampNeg 0) (2 : Int32).toNatClampNeg 0) (3 : Int32).toNatClampNeg 0) (4 : Int32).toNatClampNeg 0) (5 : Int32).toNatClampNeg 0))), (rk, .inl (cZ, 12, .inl (upd (upd (upd (upd (upd (fun _ => 0) (0 : Int32).toNatClampNeg (vp_nar .boolean 0)) (1 : Int32).toNatClampNeg (vp_nar .boolean 0)) (2 : Int32).toNatClampNeg (vp_nar .boolean 0)) (3 : Int32).toNatClampNeg (vp_nar .boolean 0)) (4 : Int32).toNatClampNeg (vp_nar .boolean 0))))] H := hP
  have hD : va_D A [(re, .inr (3, [.ref rr, .ref rk])), (rr, .inl (cI, 12, .inl (upd (upd (upd (upd (upd (upd (fun _ => 0) (0 : Int32).toNatClampNeg 0) (1 : Int32).toNatClampNeg 0) (2 : Int32).toNatClampNeg 0) (3 : Int32).toNatClampNeg 0) (4 : Int32).toNatClampNeg 0) (5 : Int32).toNatClampNeg 0))), (rk, .inl (cZ, 12, .inl (upd (upd (upd (upd (upd (fun _ => 0) (0 : Int32).toNatClampNeg (vp_nar .boolean 0)) (1 : Int32).toNatClampNeg (vp_nar .boolean 0)) (2 : Int32).toNatClampNeg (vp_nar .boolean 0)) (3 : Int32).toNatClampNeg (vp_nar .boolean 0)) (4 : Int32).toNatClampNeg (vp_nar .boolean 0))))] := hD
  refine lv_aload_n hx hb d_Re_forget_15 rfl (lv_at hl 1 rfl) ?_
  refine va_get (D := D) (ci := 3) (v := .ref rk) (C := R_Re) (T := F_Re) (N := 2) hx hb hts (fun w h => List.mem_cons_of_mem _ (u_Re w h)) hown hK hP 0 rfl rfl 1 (by decide) (hts _ (List.mem_cons_of_mem _ tw_88)) (fun _ h9 => h9) rfl d_Re_forget_16 ?_
  refine lv_iload_n hx hb d_Re_forget_19 rfl (lv_at hl 0 rfl) ?_
  refine lv_iconst (v := 0) hx hb d_Re_forget_20 (by decide) ?_
  refine va_zast hx hb hK hP hD hS 2 1 rfl rfl (by unfold vp_in; decide) d_Re_forget_21 (fun H locs hP hD hS => ?_)
  have hP : va_P D cl [(re, .inr (3, [.ref rr, .ref rk])), (rr, .inl (cI, 12, .inl (upd (upd (upd (upd (upd (upd (fun _ => 0) (0 : Int32).toNatClampNeg 0) (1 : Int32).toNatClampNeg 0) (2 : Int32).toNatClampNeg 0) (3 : Int32).toNatClampNeg 0) (4 : Int32).toNatClampNeg 0) (5 : Int32).toNatClampNeg 0))), (rk, .inl (cZ, 12, .inl (upd (upd (upd (upd (upd (upd (fun _ => 0) (0 : Int32).toNatClampNeg (vp_nar .boolean 0)) (1 : Int32).toNatClampNeg (vp_nar .boolean 0)) (2 : Int32).toNatClampNeg (vp_nar .boolean 0)) (3 : Int32).toNatClampNeg (vp_nar .boolean 0)) (4 : Int32).toNatClampNeg (vp_nar .boolean 0)) (5 : Int32).toNatClampNeg (vp_nar .boolean 0))))] H := hP
  have hD : va_D A [(re, .inr (3, [.ref rr, .ref rk])), (rr, .inl (cI, 12, .inl (upd (upd (upd (upd (upd (upd (fun _ => 0) (0 : Int32).toNatClampNeg 0) (1 : Int32).toNatClampNeg 0) (2 : Int32).toNatClampNeg 0) (3 : Int32).toNatClampNeg 0) (4 : Int32).toNatClampNeg 0) (5 : Int32).toNatClampNeg 0))), (rk, .inl (cZ, 12, .inl (upd (upd (upd (upd (upd (upd (fun _ => 0) (0 : Int32).toNatClampNeg (vp_nar .boolean 0)) (1 : Int32).toNatClampNeg (vp_nar .boolean 0)) (2 : Int32).toNatClampNeg (vp_nar .boolean 0)) (3 : Int32).toNatClampNeg (vp_nar .boolean 0)) (4 : Int32).toNatClampNeg (vp_nar .boolean 0)) (5 : Int32).toNatClampNeg (vp_nar .boolean 0))))] := hD
  refine lv_iinc (k := 0) (v := 6) hx hb d_Re_forget_22 hl rfl (by decide) (by decide) rfl (fun ls hl => ?_)
  have hl : lv_has ls 2 [(1, .int 6), (0, .ref re)] := hl
  refine lv_goto (tgt := 2) hx hb d_Re_forget_25 (by decide) ?_
  refine lv_iload_n hx hb d_Re_forget_2 rfl (lv_at hl 0 rfl) ?_
  refine lv_bipush (v := 12) hx hb d_Re_forget_3 (by decide) ?_
  refine lv_icmp_ge (tgt := 28) hx hb d_Re_forget_5 (by decide) (fun b5 => absurd b5 (by decide)) (fun b5 => ?_)
  refine lv_aload_n hx hb d_Re_forget_8 rfl (lv_at hl 1 rfl) ?_
  refine va_get (D := D) (ci := 3) (v := .ref rr) (C := R_Re) (T := F_Re) (N := 2) hx hb hts (fun w h => List.mem_cons_of_mem _ (u_Re w h)) hown hK hP 0 rfl rfl 0 (by decide) (hts _ (List.mem_cons_of_mem _ tw_86)) (fun _ h9 => h9) rfl d_Re_forget_9 ?_
  refine lv_iload_n hx hb d_Re_forget_12 rfl (lv_at hl 0 rfl) ?_
  refine lv_iconst (v := 0) hx hb d_Re_forget_13 (by decide) ?_
  refine va_iast hx hb hK hP hD hS 1 0 rfl rfl (by unfold vp_in; decide) d_Re_forget_14 (fun H locs hP hD hS => ?_)
  have hP : va_P D cl [(re, .inr (3, [.ref rr, .ref rk])), (rr, .inl (cI, 12, .inl (upd (upd (upd (upd (upd (upd (upd (fun _ => 0) (0 : Int32).toNatClampNeg 0) (1 : Int32).toNatClampNeg 0) (2 : Int32).toNatClampNeg 0) (3 : Int32).toNatClampNeg 0) (4 : Int32).toNatClampNeg 0) (5 : Int32).toNatClampNeg 0) (6 : Int32).toNatClampNeg 0))), (rk, .inl (cZ, 12, .inl (upd (upd (upd (upd (upd (upd (fun _ => 0) (0 : Int32).toNatClampNeg (vp_nar .boolean 0)) (1 : Int32).toNatClampNeg (vp_nar .boolean 0)) (2 : Int32).toNatClampNeg (vp_nar .boolean 0)) (3 : Int32).toNatClampNeg (vp_nar .boolean 0)) (4 : Int32).toNatClampNeg (vp_nar .boolean 0)) (5 : Int32).toNatClampNeg (vp_nar .boolean 0))))] H := hP
  have hD : va_D A [(re, .inr (3, [.ref rr, .ref rk])), (rr, .inl (cI, 12, .inl (upd (upd (upd (upd (upd (upd (upd (fun _ => 0) (0 : Int32).toNatClampNeg 0) (1 : Int32).toNatClampNeg 0) (2 : Int32).toNatClampNeg 0) (3 : Int32).toNatClampNeg 0) (4 : Int32).toNatClampNeg 0) (5 : Int32).toNatClampNeg 0) (6 : Int32).toNatClampNeg 0))), (rk, .inl (cZ, 12, .inl (upd (upd (upd (upd (upd (upd (fun _ => 0) (0 : Int32).toNatClampNeg (vp_nar .boolean 0)) (1 : Int32).toNatClampNeg (vp_nar .boolean 0)) (2 : Int32).toNatClampNeg (vp_nar .boolean 0)) (3 : Int32).toNatClampNeg (vp_nar .boolean 0)) (4 : Int32).toNatClampNeg (vp_nar .boolean 0)) (5 : Int32).toNatClampNeg (vp_nar .boolean 0))))] := hD
  refine lv_aload_n hx hb d_Re_forget_15 rfl (lv_at hl 1 rfl) ?_
  refine va_get (D := D) (ci := 3) (v := .ref rk) (C := R_Re) (T := F_Re) (N := 2) hx hb hts (fun w h => List.mem_cons_of_mem _ (u_Re w h)) hown hK hP 0 rfl rfl 1 (by decide) (hts _ (List.mem_cons_of_mem _ tw_88)) (fun _ h9 => h9) rfl d_Re_forget_16 ?_
  refine lv_iload_n hx hb d_Re_forget_19 rfl (lv_at hl 0 rfl) ?_
  refine lv_iconst (v := 0) hx hb d_Re_forget_20 (by decide) ?_
  refine va_zast hx hb hK hP hD hS 2 1 rfl rfl (by unfold vp_in; decide) d_Re_forget_21 (fun H locs hP hD hS => ?_)
  have hP : va_P D cl [(re, .inr (3, [.ref rr, .ref rk])), (rr, .inl (cI, 12, .inl (upd (upd (upd (upd (upd (upd (upd (fun _ => 0) (0 : Int32).toNatClampNeg 0) (1 : Int32).toNatClampNeg 0) (2 : Int32).toNatClampNeg 0) (3 : Int32).toNatClampNeg 0) (4 : Int32).toNatClampNeg 0) (5 : Int32).toNatClampNeg 0) (6 : Int32).toNatClampNeg 0))), (rk, .inl (cZ, 12, .inl (upd (upd (upd (upd (upd (upd (upd (fun _ => 0) (0 : Int32).toNatClampNeg (vp_nar .boolean 0)) (1 : Int32).toNatClampNeg (vp_nar .boolean 0)) (2 : Int32).toNatClampNeg (vp_nar .boolean 0)) (3 : Int32).toNatClampNeg (vp_nar .boolean 0)) (4 : Int32).toNatClampNeg (vp_nar .boolean 0)) (5 : Int32).toNatClampNeg (vp_nar .boolean 0)) (6 : Int32).toNatClampNeg (vp_nar .boolean 0))))] H := hP
  have hD : va_D A [(re, .inr (3, [.ref rr, .ref rk])), (rr, .inl (cI, 12, .inl (upd (upd (upd (upd (upd (upd (upd (fun _ => 0) (0 : Int32).toNatClampNeg 0) (1 : Int32).toNatClampNeg 0) (2 : Int32).toNatClampNeg 0) (3 : Int32).toNatClampNeg 0) (4 : Int32).toNatClampNeg 0) (5 : Int32).toNatClampNeg 0) (6 : Int32).toNatClampNeg 0))), (rk, .inl (cZ, 12, .inl (upd (upd (upd (upd (upd (upd (upd (fun _ => 0) (0 : Int32).toNatClampNeg (vp_nar .boolean 0)) (1 : Int32).toNatClampNeg (vp_nar .boolean 0)) (2 : Int32).toNatClampNeg (vp_nar .boolean 0)) (3 : Int32).toNatClampNeg (vp_nar .boolean 0)) (4 : Int32).toNatClampNeg (vp_nar .boolean 0)) (5 : Int32).toNatClampNeg (vp_nar .boolean 0)) (6 : Int32).toNatClampNeg (vp_nar .boolean 0))))] := hD
  refine lv_iinc (k := 0) (v := 7) hx hb d_Re_forget_22 hl rfl (by decide) (by decide) rfl (fun ls hl => ?_)
  have hl : lv_has ls 2 [(1, .int 7), (0, .ref re)] := hl
  refine lv_goto (tgt := 2) hx hb d_Re_forget_25 (by decide) ?_
  refine lv_iload_n hx hb d_Re_forget_2 rfl (lv_at hl 0 rfl) ?_
  refine lv_bipush (v := 12) hx hb d_Re_forget_3 (by decide) ?_
  refine lv_icmp_ge (tgt := 28) hx hb d_Re_forget_5 (by decide) (fun b5 => absurd b5 (by decide)) (fun b5 => ?_)
  refine lv_aload_n hx hb d_Re_forget_8 rfl (lv_at hl 1 rfl) ?_
  refine va_get (D := D) (ci := 3) (v := .ref rr) (C := R_Re) (T := F_Re) (N := 2) hx hb hts (fun w h => List.mem_cons_of_mem _ (u_Re w h)) hown hK hP 0 rfl rfl 0 (by decide) (hts _ (List.mem_cons_of_mem _ tw_86)) (fun _ h9 => h9) rfl d_Re_forget_9 ?_
  refine lv_iload_n hx hb d_Re_forget_12 rfl (lv_at hl 0 rfl) ?_
  refine lv_iconst (v := 0) hx hb d_Re_forget_13 (by decide) ?_
  refine va_iast hx hb hK hP hD hS 1 0 rfl rfl (by unfold vp_in; decide) d_Re_forget_14 (fun H locs hP hD hS => ?_)
  have hP : va_P D cl [(re, .inr (3, [.ref rr, .ref rk])), (rr, .inl (cI, 12, .inl (upd (upd (upd (upd (upd (upd (upd (upd (fun _ => 0) (0 : Int32).toNatClampNeg 0) (1 : Int32).toNatClampNeg 0) (2 : Int32).toNatClampNeg 0) (3 : Int32).toNatClampNeg 0) (4 : Int32).toNatClampNeg 0) (5 : Int32).toNatClampNeg 0) (6 : Int32).toNatClampNeg 0) (7 : Int32).toNatClampNeg 0))), (rk, .inl (cZ, 12, .inl (upd (upd (upd (upd (upd (upd (upd (fun _ => 0) (0 : Int32).toNatClampNeg (vp_nar .boolean 0)) (1 : Int32).toNatClampNeg (vp_nar .boolean 0)) (2 : Int32).toNatClampNeg (vp_nar .boolean 0)) (3 : Int32).toNatClampNeg (vp_nar .boolean 0)) (4 : Int32).toNatClampNeg (vp_nar .boolean 0)) (5 : Int32).toNatClampNeg (vp_nar .boolean 0)) (6 : Int32).toNatClampNeg (vp_nar .boolean 0))))] H := hP
  have hD : va_D A [(re, .inr (3, [.ref rr, .ref rk])), (rr, .inl (cI, 12, .inl (upd (upd (upd (upd (upd (upd (upd (upd (fun _ => 0) (0 : Int32).toNatClampNeg 0) (1 : Int32).toNatClampNeg 0) (2 : Int32).toNatClampNeg 0) (3 : Int32).toNatClampNeg 0) (4 : Int32).toNatClampNeg 0) (5 : Int32).toNatClampNeg 0) (6 : Int32).toNatClampNeg 0) (7 : Int32).toNatClampNeg 0))), (rk, .inl (cZ, 12, .inl (upd (upd (upd (upd (upd (upd (upd (fun _ => 0) (0 : Int32).toNatClampNeg (vp_nar .boolean 0)) (1 : Int32).toNatClampNeg (vp_nar .boolean 0)) (2 : Int32).toNatClampNeg (vp_nar .boolean 0)) (3 : Int32).toNatClampNeg (vp_nar .boolean 0)) (4 : Int32).toNatClampNeg (vp_nar .boolean 0)) (5 : Int32).toNatClampNeg (vp_nar .boolean 0)) (6 : Int32).toNatClampNeg (vp_nar .boolean 0))))] := hD
  refine lv_aload_n hx hb d_Re_forget_15 rfl (lv_at hl 1 rfl) ?_
  refine va_get (D := D) (ci := 3) (v := .ref rk) (C := R_Re) (T := F_Re) (N := 2) hx hb hts (fun w h => List.mem_cons_of_mem _ (u_Re w h)) hown hK hP 0 rfl rfl 1 (by decide) (hts _ (List.mem_cons_of_mem _ tw_88)) (fun _ h9 => h9) rfl d_Re_forget_16 ?_
  refine lv_iload_n hx hb d_Re_forget_19 rfl (lv_at hl 0 rfl) ?_
  refine lv_iconst (v := 0) hx hb d_Re_forget_20 (by decide) ?_
  refine va_zast hx hb hK hP hD hS 2 1 rfl rfl (by unfold vp_in; decide) d_Re_forget_21 (fun H locs hP hD hS => ?_)
  have hP : va_P D cl [(re, .inr (3, [.ref rr, .ref rk])), (rr, .inl (cI, 12, .inl (upd (upd (upd (upd (upd (upd (upd (upd (fun _ => 0) (0 : Int32).toNatClampNeg 0) (1 : Int32).toNatClampNeg 0) (2 : Int32).toNatClampNeg 0) (3 : Int32).toNatClampNeg 0) (4 : Int32).toNatClampNeg 0) (5 : Int32).toNatClampNeg 0) (6 : Int32).toNatClampNeg 0) (7 : Int32).toNatClampNeg 0))), (rk, .inl (cZ, 12, .inl (upd (upd (upd (upd (upd (upd (upd (upd (fun _ => 0) (0 : Int32).toNatClampNeg (vp_nar .boolean 0)) (1 : Int32).toNatClampNeg (vp_nar .boolean 0)) (2 : Int32).toNatClampNeg (vp_nar .boolean 0)) (3 : Int32).toNatClampNeg (vp_nar .boolean 0)) (4 : Int32).toNatClampNeg (vp_nar .boolean 0)) (5 : Int32).toNatClampNeg (vp_nar .boolean 0)) (6 : Int32).toNatClampNeg (vp_nar .boolean 0)) (7 : Int32).toNatClampNeg (vp_nar .boolean 0))))] H := hP
  have hD : va_D A [(re, .inr (3, [.ref rr, .ref rk])), (rr, .inl (cI, 12, .inl (upd (upd (upd (upd (upd (upd (upd (upd (fun _ => 0) (0 : Int32).toNatClampNeg 0) (1 : Int32).toNatClampNeg 0) (2 : Int32).toNatClampNeg 0) (3 : Int32).toNatClampNeg 0) (4 : Int32).toNatClampNeg 0) (5 : Int32).toNatClampNeg 0) (6 : Int32).toNatClampNeg 0) (7 : Int32).toNatClampNeg 0))), (rk, .inl (cZ, 12, .inl (upd (upd (upd (upd (upd (upd (upd (upd (fun _ => 0) (0 : Int32).toNatClampNeg (vp_nar .boolean 0)) (1 : Int32).toNatClampNeg (vp_nar .boolean 0)) (2 : Int32).toNatClampNeg (vp_nar .boolean 0)) (3 : Int32).toNatClampNeg (vp_nar .boolean 0)) (4 : Int32).toNatClampNeg (vp_nar .boolean 0)) (5 : Int32).toNatClampNeg (vp_nar .boolean 0)) (6 : Int32).toNatClampNeg (vp_nar .boolean 0)) (7 : Int32).toNatClampNeg (vp_nar .boolean 0))))] := hD
  refine lv_iinc (k := 0) (v := 8) hx hb d_Re_forget_22 hl rfl (by decide) (by decide) rfl (fun ls hl => ?_)
  have hl : lv_has ls 2 [(1, .int 8), (0, .ref re)] := hl
  refine lv_goto (tgt := 2) hx hb d_Re_forget_25 (by decide) ?_
  refine lv_iload_n hx hb d_Re_forget_2 rfl (lv_at hl 0 rfl) ?_
  refine lv_bipush (v := 12) hx hb d_Re_forget_3 (by decide) ?_
  refine lv_icmp_ge (tgt := 28) hx hb d_Re_forget_5 (by decide) (fun b5 => absurd b5 (by decide)) (fun b5 => ?_)
  refine lv_aload_n hx hb d_Re_forget_8 rfl (lv_at hl 1 rfl) ?_
  refine va_get (D := D) (ci := 3) (v := .ref rr) (C := R_Re) (T := F_Re) (N := 2) hx hb hts (fun w h => List.mem_cons_of_mem _ (u_Re w h)) hown hK hP 0 rfl rfl 0 (by decide) (hts _ (List.mem_cons_of_mem _ tw_86)) (fun _ h9 => h9) rfl d_Re_forget_9 ?_
  refine lv_iload_n hx hb d_Re_forget_12 rfl (lv_at hl 0 rfl) ?_
  refine lv_iconst (v := 0) hx hb d_Re_forget_13 (by decide) ?_
  refine va_iast hx hb hK hP hD hS 1 0 rfl rfl (by unfold vp_in; decide) d_Re_forget_14 (fun H locs hP hD hS => ?_)
  have hP : va_P D cl [(re, .inr (3, [.ref rr, .ref rk])), (rr, .inl (cI, 12, .inl (upd (upd (upd (upd (upd (upd (upd (upd (upd (fun _ => 0) (0 : Int32).toNatClampNeg 0) (1 : Int32).toNatClampNeg 0) (2 : Int32).toNatClampNeg 0) (3 : Int32).toNatClampNeg 0) (4 : Int32).toNatClampNeg 0) (5 : Int32).toNatClampNeg 0) (6 : Int32).toNatClampNeg 0) (7 : Int32).toNatClampNeg 0) (8 : Int32).toNatClampNeg 0))), (rk, .inl (cZ, 12, .inl (upd (upd (upd (upd (upd (upd (upd (upd (fun _ => 0) (0 : Int32).toNatClampNeg (vp_nar .boolean 0)) (1 : Int32).toNatClampNeg (vp_nar .boolean 0)) (2 : Int32).toNatClampNeg (vp_nar .boolean 0)) (3 : Int32).toNatClampNeg (vp_nar .boolean 0)) (4 : Int32).toNatClampNeg (vp_nar .boolean 0)) (5 : Int32).toNatClampNeg (vp_nar .boolean 0)) (6 : Int32).toNatClampNeg (vp_nar .boolean 0)) (7 : Int32).toNatClampNeg (vp_nar .boolean 0))))] H := hP
  have hD : va_D A [(re, .inr (3, [.ref rr, .ref rk])), (rr, .inl (cI, 12, .inl (upd (upd (upd (upd (upd (upd (upd (upd (upd (fun _ => 0) (0 : Int32).toNatClampNeg 0) (1 : Int32).toNatClampNeg 0) (2 : Int32).toNatClampNeg 0) (3 : Int32).toNatClampNeg 0) (4 : Int32).toNatClampNeg 0) (5 : Int32).toNatClampNeg 0) (6 : Int32).toNatClampNeg 0) (7 : Int32).toNatClampNeg 0) (8 : Int32).toNatClampNeg 0))), (rk, .inl (cZ, 12, .inl (upd (upd (upd (upd (upd (upd (upd (upd (fun _ => 0) (0 : Int32).toNatClampNeg (vp_nar .boolean 0)) (1 : Int32).toNatClampNeg (vp_nar .boolean 0)) (2 : Int32).toNatClampNeg (vp_nar .boolean 0)) (3 : Int32).toNatClampNeg (vp_nar .boolean 0)) (4 : Int32).toNatClampNeg (vp_nar .boolean 0)) (5 : Int32).toNatClampNeg (vp_nar .boolean 0)) (6 : Int32).toNatClampNeg (vp_nar .boolean 0)) (7 : Int32).toNatClampNeg (vp_nar .boolean 0))))] := hD
  refine lv_aload_n hx hb d_Re_forget_15 rfl (lv_at hl 1 rfl) ?_
  refine va_get (D := D) (ci := 3) (v := .ref rk) (C := R_Re) (T := F_Re) (N := 2) hx hb hts (fun w h => List.mem_cons_of_mem _ (u_Re w h)) hown hK hP 0 rfl rfl 1 (by decide) (hts _ (List.mem_cons_of_mem _ tw_88)) (fun _ h9 => h9) rfl d_Re_forget_16 ?_
  refine lv_iload_n hx hb d_Re_forget_19 rfl (lv_at hl 0 rfl) ?_
  refine lv_iconst (v := 0) hx hb d_Re_forget_20 (by decide) ?_
  refine va_zast hx hb hK hP hD hS 2 1 rfl rfl (by unfold vp_in; decide) d_Re_forget_21 (fun H locs hP hD hS => ?_)
  have hP : va_P D cl [(re, .inr (3, [.ref rr, .ref rk])), (rr, .inl (cI, 12, .inl (upd (upd (upd (upd (upd (upd (upd (upd (upd (fun _ => 0) (0 : Int32).toNatClampNeg 0) (1 : Int32).toNatClampNeg 0) (2 : Int32).toNatClampNeg 0) (3 : Int32).toNatClampNeg 0) (4 : Int32).toNatClampNeg 0) (5 : Int32).toNatClampNeg 0) (6 : Int32).toNatClampNeg 0) (7 : Int32).toNatClampNeg 0) (8 : Int32).toNatClampNeg 0))), (rk, .inl (cZ, 12, .inl (upd (upd (upd (upd (upd (upd (upd (upd (upd (fun _ => 0) (0 : Int32).toNatClampNeg (vp_nar .boolean 0)) (1 : Int32).toNatClampNeg (vp_nar .boolean 0)) (2 : Int32).toNatClampNeg (vp_nar .boolean 0)) (3 : Int32).toNatClampNeg (vp_nar .boolean 0)) (4 : Int32).toNatClampNeg (vp_nar .boolean 0)) (5 : Int32).toNatClampNeg (vp_nar .boolean 0)) (6 : Int32).toNatClampNeg (vp_nar .boolean 0)) (7 : Int32).toNatClampNeg (vp_nar .boolean 0)) (8 : Int32).toNatClampNeg (vp_nar .boolean 0))))] H := hP
  have hD : va_D A [(re, .inr (3, [.ref rr, .ref rk])), (rr, .inl (cI, 12, .inl (upd (upd (upd (upd (upd (upd (upd (upd (upd (fun _ => 0) (0 : Int32).toNatClampNeg 0) (1 : Int32).toNatClampNeg 0) (2 : Int32).toNatClampNeg 0) (3 : Int32).toNatClampNeg 0) (4 : Int32).toNatClampNeg 0) (5 : Int32).toNatClampNeg 0) (6 : Int32).toNatClampNeg 0) (7 : Int32).toNatClampNeg 0) (8 : Int32).toNatClampNeg 0))), (rk, .inl (cZ, 12, .inl (upd (upd (upd (upd (upd (upd (upd (upd (upd (fun _ => 0) (0 : Int32).toNatClampNeg (vp_nar .boolean 0)) (1 : Int32).toNatClampNeg (vp_nar .boolean 0)) (2 : Int32).toNatClampNeg (vp_nar .boolean 0)) (3 : Int32).toNatClampNeg (vp_nar .boolean 0)) (4 : Int32).toNatClampNeg (vp_nar .boolean 0)) (5 : Int32).toNatClampNeg (vp_nar .boolean 0)) (6 : Int32).toNatClampNeg (vp_nar .boolean 0)) (7 : Int32).toNatClampNeg (vp_nar .boolean 0)) (8 : Int32).toNatClampNeg (vp_nar .boolean 0))))] := hD
  refine lv_iinc (k := 0) (v := 9) hx hb d_Re_forget_22 hl rfl (by decide) (by decide) rfl (fun ls hl => ?_)
  have hl : lv_has ls 2 [(1, .int 9), (0, .ref re)] := hl
  refine lv_goto (tgt := 2) hx hb d_Re_forget_25 (by decide) ?_
  refine lv_iload_n hx hb d_Re_forget_2 rfl (lv_at hl 0 rfl) ?_
  refine lv_bipush (v := 12) hx hb d_Re_forget_3 (by decide) ?_
  refine lv_icmp_ge (tgt := 28) hx hb d_Re_forget_5 (by decide) (fun b5 => absurd b5 (by decide)) (fun b5 => ?_)
  refine lv_aload_n hx hb d_Re_forget_8 rfl (lv_at hl 1 rfl) ?_
  refine va_get (D := D) (ci := 3) (v := .ref rr) (C := R_Re) (T := F_Re) (N := 2) hx hb hts (fun w h => List.mem_cons_of_mem _ (u_Re w h)) hown hK hP 0 rfl rfl 0 (by decide) (hts _ (List.mem_cons_of_mem _ tw_86)) (fun _ h9 => h9) rfl d_Re_forget_9 ?_
  refine lv_iload_n hx hb d_Re_forget_12 rfl (lv_at hl 0 rfl) ?_
  refine lv_iconst (v := 0) hx hb d_Re_forget_13 (by decide) ?_
  refine va_iast hx hb hK hP hD hS 1 0 rfl rfl (by unfold vp_in; decide) d_Re_forget_14 (fun H locs hP hD hS => ?_)
  have hP : va_P D cl [(re, .inr (3, [.ref rr, .ref rk])), (rr, .inl (cI, 12, .inl (upd (upd (upd (upd (upd (upd (upd (upd (upd (upd (fun _ => 0) (0 : Int32).toNatClampNeg 0) (1 : Int32).toNatClampNeg 0) (2 : Int32).toNatClampNeg 0) (3 : Int32).toNatClampNeg 0) (4 : Int32).toNatClampNeg 0) (5 : Int32).toNatClampNeg 0) (6 : Int32).toNatClampNeg 0) (7 : Int32).toNatClampNeg 0) (8 : Int32).toNatClampNeg 0) (9 : Int32).toNatClampNeg 0))), (rk, .inl (cZ, 12, .inl (upd (upd (upd (upd (upd (upd (upd (upd (upd (fun _ => 0) (0 : Int32).toNatClampNeg (vp_nar .boolean 0)) (1 : Int32).toNatClampNeg (vp_nar .boolean 0)) (2 : Int32).toNatClampNeg (vp_nar .boolean 0)) (3 : Int32).toNatClampNeg (vp_nar .boolean 0)) (4 : Int32).toNatClampNeg (vp_nar .boolean 0)) (5 : Int32).toNatClampNeg (vp_nar .boolean 0)) (6 : Int32).toNatClampNeg (vp_nar .boolean 0)) (7 : Int32).toNatClampNeg (vp_nar .boolean 0)) (8 : Int32).toNatClampNeg (vp_nar .boolean 0))))] H := hP
  have hD : va_D A [(re, .inr (3, [.ref rr, .ref rk])), (rr, .inl (cI, 12, .inl (upd (upd (upd (upd (upd (upd (upd (upd (upd (upd (fun _ => 0) (0 : Int32).toNatClampNeg 0) (1 : Int32).toNatClampNeg 0) (2 : Int32).toNatClampNeg 0) (3 : Int32).toNatClampNeg 0) (4 : Int32).toNatClampNeg 0) (5 : Int32).toNatClampNeg 0) (6 : Int32).toNatClampNeg 0) (7 : Int32).toNatClampNeg 0) (8 : Int32).toNatClampNeg 0) (9 : Int32).toNatClampNeg 0))), (rk, .inl (cZ, 12, .inl (upd (upd (upd (upd (upd (upd (upd (upd (upd (fun _ => 0) (0 : Int32).toNatClampNeg (vp_nar .boolean 0)) (1 : Int32).toNatClampNeg (vp_nar .boolean 0)) (2 : Int32).toNatClampNeg (vp_nar .boolean 0)) (3 : Int32).toNatClampNeg (vp_nar .boolean 0)) (4 : Int32).toNatClampNeg (vp_nar .boolean 0)) (5 : Int32).toNatClampNeg (vp_nar .boolean 0)) (6 : Int32).toNatClampNeg (vp_nar .boolean 0)) (7 : Int32).toNatClampNeg (vp_nar .boolean 0)) (8 : Int32).toNatClampNeg (vp_nar .boolean 0))))] := hD
  refine lv_aload_n hx hb d_Re_forget_15 rfl (lv_at hl 1 rfl) ?_
  refine va_get (D := D) (ci := 3) (v := .ref rk) (C := R_Re) (T := F_Re) (N := 2) hx hb hts (fun w h => List.mem_cons_of_mem _ (u_Re w h)) hown hK hP 0 rfl rfl 1 (by decide) (hts _ (List.mem_cons_of_mem _ tw_88)) (fun _ h9 => h9) rfl d_Re_forget_16 ?_
  refine lv_iload_n hx hb d_Re_forget_19 rfl (lv_at hl 0 rfl) ?_
  refine lv_iconst (v := 0) hx hb d_Re_forget_20 (by decide) ?_
  refine va_zast hx hb hK hP hD hS 2 1 rfl rfl (by unfold vp_in; decide) d_Re_forget_21 (fun H locs hP hD hS => ?_)
  have hP : va_P D cl [(re, .inr (3, [.ref rr, .ref rk])), (rr, .inl (cI, 12, .inl (upd (upd (upd (upd (upd (upd (upd (upd (upd (upd (fun _ => 0) (0 : Int32).toNatClampNeg 0) (1 : Int32).toNatClampNeg 0) (2 : Int32).toNatClampNeg 0) (3 : Int32).toNatClampNeg 0) (4 : Int32).toNatClampNeg 0) (5 : Int32).toNatClampNeg 0) (6 : Int32).toNatClampNeg 0) (7 : Int32).toNatClampNeg 0) (8 : Int32).toNatClampNeg 0) (9 : Int32).toNatClampNeg 0))), (rk, .inl (cZ, 12, .inl (upd (upd (upd (upd (upd (upd (upd (upd (upd (upd (fun _ => 0) (0 : Int32).toNatClampNeg (vp_nar .boolean 0)) (1 : Int32).toNatClampNeg (vp_nar .boolean 0)) (2 : Int32).toNatClampNeg (vp_nar .boolean 0)) (3 : Int32).toNatClampNeg (vp_nar .boolean 0)) (4 : Int32).toNatClampNeg (vp_nar .boolean 0)) (5 : Int32).toNatClampNeg (vp_nar .boolean 0)) (6 : Int32).toNatClampNeg (vp_nar .boolean 0)) (7 : Int32).toNatClampNeg (vp_nar .boolean 0)) (8 : Int32).toNatClampNeg (vp_nar .boolean 0)) (9 : Int32).toNatClampNeg (vp_nar .boolean 0))))] H := hP
  have hD : va_D A [(re, .inr (3, [.ref rr, .ref rk])), (rr, .inl (cI, 12, .inl (upd (upd (upd (upd (upd (upd (upd (upd (upd (upd (fun _ => 0) (0 : Int32).toNatClampNeg 0) (1 : Int32).toNatClampNeg 0) (2 : Int32).toNatClampNeg 0) (3 : Int32).toNatClampNeg 0) (4 : Int32).toNatClampNeg 0) (5 : Int32).toNatClampNeg 0) (6 : Int32).toNatClampNeg 0) (7 : Int32).toNatClampNeg 0) (8 : Int32).toNatClampNeg 0) (9 : Int32).toNatClampNeg 0))), (rk, .inl (cZ, 12, .inl (upd (upd (upd (upd (upd (upd (upd (upd (upd (upd (fun _ => 0) (0 : Int32).toNatClampNeg (vp_nar .boolean 0)) (1 : Int32).toNatClampNeg (vp_nar .boolean 0)) (2 : Int32).toNatClampNeg (vp_nar .boolean 0)) (3 : Int32).toNatClampNeg (vp_nar .boolean 0)) (4 : Int32).toNatClampNeg (vp_nar .boolean 0)) (5 : Int32).toNatClampNeg (vp_nar .boolean 0)) (6 : Int32).toNatClampNeg (vp_nar .boolean 0)) (7 : Int32).toNatClampNeg (vp_nar .boolean 0)) (8 : Int32).toNatClampNeg (vp_nar .boolean 0)) (9 : Int32).toNatClampNeg (vp_nar .boolean 0))))] := hD
  refine lv_iinc (k := 0) (v := 10) hx hb d_Re_forget_22 hl rfl (by decide) (by decide) rfl (fun ls hl => ?_)
  have hl : lv_has ls 2 [(1, .int 10), (0, .ref re)] := hl
  refine lv_goto (tgt := 2) hx hb d_Re_forget_25 (by decide) ?_
  refine lv_iload_n hx hb d_Re_forget_2 rfl (lv_at hl 0 rfl) ?_
  refine lv_bipush (v := 12) hx hb d_Re_forget_3 (by decide) ?_
  refine lv_icmp_ge (tgt := 28) hx hb d_Re_forget_5 (by decide) (fun b5 => absurd b5 (by decide)) (fun b5 => ?_)
  refine lv_aload_n hx hb d_Re_forget_8 rfl (lv_at hl 1 rfl) ?_
  refine va_get (D := D) (ci := 3) (v := .ref rr) (C := R_Re) (T := F_Re) (N := 2) hx hb hts (fun w h => List.mem_cons_of_mem _ (u_Re w h)) hown hK hP 0 rfl rfl 0 (by decide) (hts _ (List.mem_cons_of_mem _ tw_86)) (fun _ h9 => h9) rfl d_Re_forget_9 ?_
  refine lv_iload_n hx hb d_Re_forget_12 rfl (lv_at hl 0 rfl) ?_
  refine lv_iconst (v := 0) hx hb d_Re_forget_13 (by decide) ?_
  refine va_iast hx hb hK hP hD hS 1 0 rfl rfl (by unfold vp_in; decide) d_Re_forget_14 (fun H locs hP hD hS => ?_)
  have hP : va_P D cl [(re, .inr (3, [.ref rr, .ref rk])), (rr, .inl (cI, 12, .inl (upd (upd (upd (upd (upd (upd (upd (upd (upd (upd (upd (fun _ => 0) (0 : Int32).toNatClampNeg 0) (1 : Int32).toNatClampNeg 0) (2 : Int32).toNatClampNeg 0) (3 : Int32).toNatClampNeg 0) (4 : Int32).toNatClampNeg 0) (5 : Int32).toNatClampNeg 0) (6 : Int32).toNatClampNeg 0) (7 : Int32).toNatClampNeg 0) (8 : Int32).toNatClampNeg 0) (9 : Int32).toNatClampNeg 0) (10 : Int32).toNatClampNeg 0))), (rk, .inl (cZ, 12, .inl (upd (upd (upd (upd (upd (upd (upd (upd (upd (upd (fun _ => 0) (0 : Int32).toNatClampNeg (vp_nar .boolean 0)) (1 : Int32).toNatClampNeg (vp_nar .boolean 0)) (2 : Int32).toNatClampNeg (vp_nar .boolean 0)) (3 : Int32).toNatClampNeg (vp_nar .boolean 0)) (4 : Int32).toNatClampNeg (vp_nar .boolean 0)) (5 : Int32).toNatClampNeg (vp_nar .boolean 0)) (6 : Int32).toNatClampNeg (vp_nar .boolean 0)) (7 : Int32).toNatClampNeg (vp_nar .boolean 0)) (8 : Int32).toNatClampNeg (vp_nar .boolean 0)) (9 : Int32).toNatClampNeg (vp_nar .boolean 0))))] H := hP
  have hD : va_D A [(re, .inr (3, [.ref rr, .ref rk])), (rr, .inl (cI, 12, .inl (upd (upd (upd (upd (upd (upd (upd (upd (upd (upd (upd (fun _ => 0) (0 : Int32).toNatClampNeg 0) (1 : Int32).toNatClampNeg 0) (2 : Int32).toNatClampNeg 0) (3 : Int32).toNatClampNeg 0) (4 : Int32).toNatClampNeg 0) (5 : Int32).toNatClampNeg 0) (6 : Int32).toNatClampNeg 0) (7 : Int32).toNatClampNeg 0) (8 : Int32).toNatClampNeg 0) (9 : Int32).toNatClampNeg 0) (10 : Int32).toNatClampNeg 0))), (rk, .inl (cZ, 12, .inl (upd (upd (upd (upd (upd (upd (upd (upd (upd (upd (fun _ => 0) (0 : Int32).toNatClampNeg (vp_nar .boolean 0)) (1 : Int32).toNatClampNeg (vp_nar .boolean 0)) (2 : Int32).toNatClampNeg (vp_nar .boolean 0)) (3 : Int32).toNatClampNeg (vp_nar .boolean 0)) (4 : Int32).toNatClampNeg (vp_nar .boolean 0)) (5 : Int32).toNatClampNeg (vp_nar .boolean 0)) (6 : Int32).toNatClampNeg (vp_nar .boolean 0)) (7 : Int32).toNatClampNeg (vp_nar .boolean 0)) (8 : Int32).toNatClampNeg (vp_nar .boolean 0)) (9 : Int32).toNatClampNeg (vp_nar .boolean 0))))] := hD
  refine lv_aload_n hx hb d_Re_forget_15 rfl (lv_at hl 1 rfl) ?_
  refine va_get (D := D) (ci := 3) (v := .ref rk) (C := R_Re) (T := F_Re) (N := 2) hx hb hts (fun w h => List.mem_cons_of_mem _ (u_Re w h)) hown hK hP 0 rfl rfl 1 (by decide) (hts _ (List.mem_cons_of_mem _ tw_88)) (fun _ h9 => h9) rfl d_Re_forget_16 ?_
  refine lv_iload_n hx hb d_Re_forget_19 rfl (lv_at hl 0 rfl) ?_
  refine lv_iconst (v := 0) hx hb d_Re_forget_20 (by decide) ?_
  refine va_zast hx hb hK hP hD hS 2 1 rfl rfl (by unfold vp_in; decide) d_Re_forget_21 (fun H locs hP hD hS => ?_)
  have hP : va_P D cl [(re, .inr (3, [.ref rr, .ref rk])), (rr, .inl (cI, 12, .inl (upd (upd (upd (upd (upd (upd (upd (upd (upd (upd (upd (fun _ => 0) (0 : Int32).toNatClampNeg 0) (1 : Int32).toNatClampNeg 0) (2 : Int32).toNatClampNeg 0) (3 : Int32).toNatClampNeg 0) (4 : Int32).toNatClampNeg 0) (5 : Int32).toNatClampNeg 0) (6 : Int32).toNatClampNeg 0) (7 : Int32).toNatClampNeg 0) (8 : Int32).toNatClampNeg 0) (9 : Int32).toNatClampNeg 0) (10 : Int32).toNatClampNeg 0))), (rk, .inl (cZ, 12, .inl (upd (upd (upd (upd (upd (upd (upd (upd (upd (upd (upd (fun _ => 0) (0 : Int32).toNatClampNeg (vp_nar .boolean 0)) (1 : Int32).toNatClampNeg (vp_nar .boolean 0)) (2 : Int32).toNatClampNeg (vp_nar .boolean 0)) (3 : Int32).toNatClampNeg (vp_nar .boolean 0)) (4 : Int32).toNatClampNeg (vp_nar .boolean 0)) (5 : Int32).toNatClampNeg (vp_nar .boolean 0)) (6 : Int32).toNatClampNeg (vp_nar .boolean 0)) (7 : Int32).toNatClampNeg (vp_nar .boolean 0)) (8 : Int32).toNatClampNeg (vp_nar .boolean 0)) (9 : Int32).toNatClampNeg (vp_nar .boolean 0)) (10 : Int32).toNatClampNeg (vp_nar .boolean 0))))] H := hP
  have hD : va_D A [(re, .inr (3, [.ref rr, .ref rk])), (rr, .inl (cI, 12, .inl (upd (upd (upd (upd (upd (upd (upd (upd (upd (upd (upd (fun _ => 0) (0 : Int32).toNatClampNeg 0) (1 : Int32).toNatClampNeg 0) (2 : Int32).toNatClampNeg 0) (3 : Int32).toNatClampNeg 0) (4 : Int32).toNatClampNeg 0) (5 : Int32).toNatClampNeg 0) (6 : Int32).toNatClampNeg 0) (7 : Int32).toNatClampNeg 0) (8 : Int32).toNatClampNeg 0) (9 : Int32).toNatClampNeg 0) (10 : Int32).toNatClampNeg 0))), (rk, .inl (cZ, 12, .inl (upd (upd (upd (upd (upd (upd (upd (upd (upd (upd (upd (fun _ => 0) (0 : Int32).toNatClampNeg (vp_nar .boolean 0)) (1 : Int32).toNatClampNeg (vp_nar .boolean 0)) (2 : Int32).toNatClampNeg (vp_nar .boolean 0)) (3 : Int32).toNatClampNeg (vp_nar .boolean 0)) (4 : Int32).toNatClampNeg (vp_nar .boolean 0)) (5 : Int32).toNatClampNeg (vp_nar .boolean 0)) (6 : Int32).toNatClampNeg (vp_nar .boolean 0)) (7 : Int32).toNatClampNeg (vp_nar .boolean 0)) (8 : Int32).toNatClampNeg (vp_nar .boolean 0)) (9 : Int32).toNatClampNeg (vp_nar .boolean 0)) (10 : Int32).toNatClampNeg (vp_nar .boolean 0))))] := hD
  refine lv_iinc (k := 0) (v := 11) hx hb d_Re_forget_22 hl rfl (by decide) (by decide) rfl (fun ls hl => ?_)
  have hl : lv_has ls 2 [(1, .int 11), (0, .ref re)] := hl
  refine lv_goto (tgt := 2) hx hb d_Re_forget_25 (by decide) ?_
  refine lv_iload_n hx hb d_Re_forget_2 rfl (lv_at hl 0 rfl) ?_
  refine lv_bipush (v := 12) hx hb d_Re_forget_3 (by decide) ?_
  refine lv_icmp_ge (tgt := 28) hx hb d_Re_forget_5 (by decide) (fun b5 => absurd b5 (by decide)) (fun b5 => ?_)
  refine lv_aload_n hx hb d_Re_forget_8 rfl (lv_at hl 1 rfl) ?_
  refine va_get (D := D) (ci := 3) (v := .ref rr) (C := R_Re) (T := F_Re) (N := 2) hx hb hts (fun w h => List.mem_cons_of_mem _ (u_Re w h)) hown hK hP 0 rfl rfl 0 (by decide) (hts _ (List.mem_cons_of_mem _ tw_86)) (fun _ h9 => h9) rfl d_Re_forget_9 ?_
  refine lv_iload_n hx hb d_Re_forget_12 rfl (lv_at hl 0 rfl) ?_
  refine lv_iconst (v := 0) hx hb d_Re_forget_13 (by decide) ?_
  refine va_iast hx hb hK hP hD hS 1 0 rfl rfl (by unfold vp_in; decide) d_Re_forget_14 (fun H locs hP hD hS => ?_)
  have hP : va_P D cl [(re, .inr (3, [.ref rr, .ref rk])), (rr, .inl (cI, 12, .inl (upd (upd (upd (upd (upd (upd (upd (upd (upd (upd (upd (upd (fun _ => 0) (0 : Int32).toNatClampNeg 0) (1 : Int32).toNatClampNeg 0) (2 : Int32).toNatClampNeg 0) (3 : Int32).toNatClampNeg 0) (4 : Int32).toNatClampNeg 0) (5 : Int32).toNatClampNeg 0) (6 : Int32).toNatClampNeg 0) (7 : Int32).toNatClampNeg 0) (8 : Int32).toNatClampNeg 0) (9 : Int32).toNatClampNeg 0) (10 : Int32).toNatClampNeg 0) (11 : Int32).toNatClampNeg 0))), (rk, .inl (cZ, 12, .inl (upd (upd (upd (upd (upd (upd (upd (upd (upd (upd (upd (fun _ => 0) (0 : Int32).toNatClampNeg (vp_nar .boolean 0)) (1 : Int32).toNatClampNeg (vp_nar .boolean 0)) (2 : Int32).toNatClampNeg (vp_nar .boolean 0)) (3 : Int32).toNatClampNeg (vp_nar .boolean 0)) (4 : Int32).toNatClampNeg (vp_nar .boolean 0)) (5 : Int32).toNatClampNeg (vp_nar .boolean 0)) (6 : Int32).toNatClampNeg (vp_nar .boolean 0)) (7 : Int32).toNatClampNeg (vp_nar .boolean 0)) (8 : Int32).toNatClampNeg (vp_nar .boolean 0)) (9 : Int32).toNatClampNeg (vp_nar .boolean 0)) (10 : Int32).toNatClampNeg (vp_nar .boolean 0))))] H := hP
  have hD : va_D A [(re, .inr (3, [.ref rr, .ref rk])), (rr, .inl (cI, 12, .inl (upd (upd (upd (upd (upd (upd (upd (upd (upd (upd (upd (upd (fun _ => 0) (0 : Int32).toNatClampNeg 0) (1 : Int32).toNatClampNeg 0) (2 : Int32).toNatClampNeg 0) (3 : Int32).toNatClampNeg 0) (4 : Int32).toNatClampNeg 0) (5 : Int32).toNatClampNeg 0) (6 : Int32).toNatClampNeg 0) (7 : Int32).toNatClampNeg 0) (8 : Int32).toNatClampNeg 0) (9 : Int32).toNatClampNeg 0) (10 : Int32).toNatClampNeg 0) (11 : Int32).toNatClampNeg 0))), (rk, .inl (cZ, 12, .inl (upd (upd (upd (upd (upd (upd (upd (upd (upd (upd (upd (fun _ => 0) (0 : Int32).toNatClampNeg (vp_nar .boolean 0)) (1 : Int32).toNatClampNeg (vp_nar .boolean 0)) (2 : Int32).toNatClampNeg (vp_nar .boolean 0)) (3 : Int32).toNatClampNeg (vp_nar .boolean 0)) (4 : Int32).toNatClampNeg (vp_nar .boolean 0)) (5 : Int32).toNatClampNeg (vp_nar .boolean 0)) (6 : Int32).toNatClampNeg (vp_nar .boolean 0)) (7 : Int32).toNatClampNeg (vp_nar .boolean 0)) (8 : Int32).toNatClampNeg (vp_nar .boolean 0)) (9 : Int32).toNatClampNeg (vp_nar .boolean 0)) (10 : Int32).toNatClampNeg (vp_nar .boolean 0))))] := hD
  refine lv_aload_n hx hb d_Re_forget_15 rfl (lv_at hl 1 rfl) ?_
  refine va_get (D := D) (ci := 3) (v := .ref rk) (C := R_Re) (T := F_Re) (N := 2) hx hb hts (fun w h => List.mem_cons_of_mem _ (u_Re w h)) hown hK hP 0 rfl rfl 1 (by decide) (hts _ (List.mem_cons_of_mem _ tw_88)) (fun _ h9 => h9) rfl d_Re_forget_16 ?_
  refine lv_iload_n hx hb d_Re_forget_19 rfl (lv_at hl 0 rfl) ?_
  refine lv_iconst (v := 0) hx hb d_Re_forget_20 (by decide) ?_
  refine va_zast hx hb hK hP hD hS 2 1 rfl rfl (by unfold vp_in; decide) d_Re_forget_21 (fun H locs hP hD hS => ?_)
  have hP : va_P D cl [(re, .inr (3, [.ref rr, .ref rk])), (rr, .inl (cI, 12, .inl (upd (upd (upd (upd (upd (upd (upd (upd (upd (upd (upd (upd (fun _ => 0) (0 : Int32).toNatClampNeg 0) (1 : Int32).toNatClampNeg 0) (2 : Int32).toNatClampNeg 0) (3 : Int32).toNatClampNeg 0) (4 : Int32).toNatClampNeg 0) (5 : Int32).toNatClampNeg 0) (6 : Int32).toNatClampNeg 0) (7 : Int32).toNatClampNeg 0) (8 : Int32).toNatClampNeg 0) (9 : Int32).toNatClampNeg 0) (10 : Int32).toNatClampNeg 0) (11 : Int32).toNatClampNeg 0))), (rk, .inl (cZ, 12, .inl (upd (upd (upd (upd (upd (upd (upd (upd (upd (upd (upd (upd (fun _ => 0) (0 : Int32).toNatClampNeg (vp_nar .boolean 0)) (1 : Int32).toNatClampNeg (vp_nar .boolean 0)) (2 : Int32).toNatClampNeg (vp_nar .boolean 0)) (3 : Int32).toNatClampNeg (vp_nar .boolean 0)) (4 : Int32).toNatClampNeg (vp_nar .boolean 0)) (5 : Int32).toNatClampNeg (vp_nar .boolean 0)) (6 : Int32).toNatClampNeg (vp_nar .boolean 0)) (7 : Int32).toNatClampNeg (vp_nar .boolean 0)) (8 : Int32).toNatClampNeg (vp_nar .boolean 0)) (9 : Int32).toNatClampNeg (vp_nar .boolean 0)) (10 : Int32).toNatClampNeg (vp_nar .boolean 0)) (11 : Int32).toNatClampNeg (vp_nar .boolean 0))))] H := hP
  have hD : va_D A [(re, .inr (3, [.ref rr, .ref rk])), (rr, .inl (cI, 12, .inl (upd (upd (upd (upd (upd (upd (upd (upd (upd (upd (upd (upd (fun _ => 0) (0 : Int32).toNatClampNeg 0) (1 : Int32).toNatClampNeg 0) (2 : Int32).toNatClampNeg 0) (3 : Int32).toNatClampNeg 0) (4 : Int32).toNatClampNeg 0) (5 : Int32).toNatClampNeg 0) (6 : Int32).toNatClampNeg 0) (7 : Int32).toNatClampNeg 0) (8 : Int32).toNatClampNeg 0) (9 : Int32).toNatClampNeg 0) (10 : Int32).toNatClampNeg 0) (11 : Int32).toNatClampNeg 0))), (rk, .inl (cZ, 12, .inl (upd (upd (upd (upd (upd (upd (upd (upd (upd (upd (upd (upd (fun _ => 0) (0 : Int32).toNatClampNeg (vp_nar .boolean 0)) (1 : Int32).toNatClampNeg (vp_nar .boolean 0)) (2 : Int32).toNatClampNeg (vp_nar .boolean 0)) (3 : Int32).toNatClampNeg (vp_nar .boolean 0)) (4 : Int32).toNatClampNeg (vp_nar .boolean 0)) (5 : Int32).toNatClampNeg (vp_nar .boolean 0)) (6 : Int32).toNatClampNeg (vp_nar .boolean 0)) (7 : Int32).toNatClampNeg (vp_nar .boolean 0)) (8 : Int32).toNatClampNeg (vp_nar .boolean 0)) (9 : Int32).toNatClampNeg (vp_nar .boolean 0)) (10 : Int32).toNatClampNeg (vp_nar .boolean 0)) (11 : Int32).toNatClampNeg (vp_nar .boolean 0))))] := hD
  refine lv_iinc (k := 0) (v := 12) hx hb d_Re_forget_22 hl rfl (by decide) (by decide) rfl (fun ls hl => ?_)
  have hl : lv_has ls 2 [(1, .int 12), (0, .ref re)] := hl
  refine lv_goto (tgt := 2) hx hb d_Re_forget_25 (by decide) ?_
  refine lv_iload_n hx hb d_Re_forget_2 rfl (lv_at hl 0 rfl) ?_
  refine lv_bipush (v := 12) hx hb d_Re_forget_3 (by decide) ?_
  refine lv_icmp_ge (tgt := 28) hx hb d_Re_forget_5 (by decide) (fun b5 => ?_) (fun b5 => absurd b5 (by decide))
  exact xrv () B d_Re_forget_28 (trivial) (hP.sub (ws' := []) [] rfl) (hK.sub (tys' := []) [] rfl) (hD.sub (ws' := []) [] (by decide) rfl) hS (Nat.le_of_ble_eq_true rfl) (Nat.le_of_ble_eq_true rfl)
theorem d_Bu_forget_0 : decode b_Bu_forget 0 = .ok (.aload_n 0, 1) := by decide +kernel
theorem d_Bu_forget_1 : decode b_Bu_forget 1 = .ok (.getfield 9, 3) := by decide +kernel
theorem d_Bu_forget_4 : decode b_Bu_forget 4 = .ok (.iconst (0), 1) := by decide +kernel
theorem d_Bu_forget_5 : decode b_Bu_forget 5 = .ok (.invokestatic 19, 3) := by decide +kernel
theorem d_Bu_forget_8 : decode b_Bu_forget 8 = .ok (.aload_n 0, 1) := by decide +kernel
theorem d_Bu_forget_9 : decode b_Bu_forget 9 = .ok (.iconst (0), 1) := by decide +kernel
theorem d_Bu_forget_10 : decode b_Bu_forget 10 = .ok (.putfield 15, 3) := by decide +kernel
theorem d_Bu_forget_13 : decode b_Bu_forget 13 = .ok (.return_, 1) := by decide +kernel
set_option maxRecDepth 20000 in
set_option maxHeartbeats 4000000 in
theorem c_Bu_forget (l : Launch) (D : va_G) (bu : Nat) (bs : Nat) (cI : ClassId) (sz : Nat)  : xMv l y_Bu_forget w_Bu_forget { frames := 1, cells := 0, slots := 0, locals := 40 } D cl [.ref bu] sz [(cI, .int)] [(bu, .inr (0, [.ref bs, .int 0, .int 0, .int 0])), (bs, .inl (cI, 12, .inl (fun _ => 0)))] (fun (_ : Unit) => True) (fun _ => []) (fun _ => []) := by
  refine xMv_of (by decide +kernel) rfl (Nat.le_of_ble_eq_true rfl) ?_
  intro p e s m args below meth c ls A B hAe hA hsz hP hK hD hS hAm hTh hAs hl
  obtain ⟨⟨hx, hb, hml, hown, hts⟩, hret, hlk, hnm, hemp⟩ := id B
  have hl : lv_has ls 1 [(0, .ref bu)] := hl
  refine lv_aload_n hx hb d_Bu_forget_0 rfl (lv_at hl 0 rfl) ?_
  refine va_get (D := D) (ci := 0) (v := .ref bs) (C := R_Bu) (T := F_Bu) (N := 4) hx hb hts (fun w h => List.mem_cons_of_mem _ (u_Bu w h)) hown hK hP 0 rfl rfl 0 (by decide) (hts _ (List.mem_cons_of_mem _ tw_128)) (fun _ h9 => h9) rfl d_Bu_forget_1 ?_
  refine lv_iconst (v := 0) hx hb d_Bu_forget_4 (by decide) ?_
  have hPc := hP.sub (ws' := [(bs, .inl (cI, 12, .inl (fun _ => 0)))]) [1] rfl
  have hDc := hD.sub (ws' := [(bs, .inl (cI, 12, .inl (fun _ => 0)))]) [1] (by decide) rfl
  have hKc := hK.sub (tys' := [(cI, .int)]) [0] rfl
  refine xgv (wsC := [(bs, .inl (cI, 12, .inl (fun _ => 0)))]) (wr := [(bu, .inr (0, [.ref bs, .int 0, .int 0, .int 0]))]) (va_runS (As := [.ref bs, .int 0]) (rest := []) ⟨hx, hb, hml, hown, hts⟩ (c_Ar_fill l D bs cI 12 (fun _ => 0) 0 _ (by decide)) ⟨(callB_of 2 hts (x_good k_Ar_fill) rfl rfl rfl (hts _ (List.mem_cons_of_mem _ tw_6)) (hts _ (List.mem_cons_of_mem _ tw_507)) (by decide +kernel) ⟨Nat.le_of_ble_eq_true rfl, Nat.le_of_ble_eq_true rfl⟩), (hts _ (List.mem_cons_of_mem _ tw_103))⟩ (xP_S hPc hKc hDc hAm hTh hAs hS) rfl rfl hl.1 rfl (lv_room (Nat.le_of_ble_eq_true rfl)) d_Bu_forget_5 ⟨Nat.le_of_ble_eq_true rfl, Nat.le_of_ble_eq_true rfl⟩) hP hD hK hS hA [1] [0] rfl rfl (by decide) (by decide) (fun _ H locs _ hP hD hK hS => ?_)
  have hK : va_K D cl [(cI, .int)] s := hK
  have hP : va_P D cl [(bu, .inr (0, [.ref bs, .int 0, .int 0, .int 0])), (bs, .inl (cI, 12, .inl (fun _ => 0)))] H := hP
  have hD : va_D A [(bu, .inr (0, [.ref bs, .int 0, .int 0, .int 0])), (bs, .inl (cI, 12, .inl (fun _ => 0)))] := hD
  refine lv_aload_n hx hb d_Bu_forget_8 rfl (lv_at hl 0 rfl) ?_
  refine lv_iconst (v := 0) hx hb d_Bu_forget_9 (by decide) ?_
  refine va_put (D := D) (ci := 0) (v := .int 0) (ty := .int) (C := R_Bu) (T := F_Bu) (N := 4) hx hb hts (fun w h => List.mem_cons_of_mem _ (u_Bu w h)) t_Bu o_Bu n_Bu hown hK hP hD hS 0 rfl rfl 3 (by decide) (hts _ (List.mem_cons_of_mem _ tw_134)) (fun _ h9 => h9) rfl (by decide +kernel) rfl rfl (Nat.le_of_ble_eq_true rfl) d_Bu_forget_10 (fun H locs hP hD hS => ?_)
  have hP : va_P D cl [(bu, .inr (0, [.ref bs, .int 0, .int 0, .int 0])), (bs, .inl (cI, 12, .inl (fun _ => 0)))] H := hP
  have hD : va_D A [(bu, .inr (0, [.ref bs, .int 0, .int 0, .int 0])), (bs, .inl (cI, 12, .inl (fun _ => 0)))] := hD
  exact xrv () B d_Bu_forget_13 (trivial) (hP.sub (ws' := []) [] rfl) (hK.sub (tys' := []) [] rfl) (hD.sub (ws' := []) [] (by decide) rfl) hS (Nat.le_of_ble_eq_true rfl) (Nat.le_of_ble_eq_true rfl)
theorem d_FB_cut_0 : decode b_FB_cut 0 = .ok (.iload_n 1, 1) := by decide +kernel
theorem d_FB_cut_1 : decode b_FB_cut 1 = .ok (.ifCond .ge (13), 3) := by decide +kernel
theorem d_FB_cut_14 : decode b_FB_cut 14 = .ok (.aload_n 0, 1) := by decide +kernel
theorem d_FB_cut_15 : decode b_FB_cut 15 = .ok (.invokevirtual 130, 3) := by decide +kernel
theorem d_FB_cut_18 : decode b_FB_cut 18 = .ok (.aload_n 0, 1) := by decide +kernel
theorem d_FB_cut_19 : decode b_FB_cut 19 = .ok (.getfield 33, 3) := by decide +kernel
theorem d_FB_cut_22 : decode b_FB_cut 22 = .ok (.iload_n 1, 1) := by decide +kernel
theorem d_FB_cut_23 : decode b_FB_cut 23 = .ok (.invokevirtual 234, 3) := by decide +kernel
theorem d_FB_cut_26 : decode b_FB_cut 26 = .ok (.aload_n 0, 1) := by decide +kernel
theorem d_FB_cut_27 : decode b_FB_cut 27 = .ok (.getfield 26, 3) := by decide +kernel
theorem d_FB_cut_30 : decode b_FB_cut 30 = .ok (.invokevirtual 237, 3) := by decide +kernel
theorem d_FB_cut_33 : decode b_FB_cut 33 = .ok (.aload_n 0, 1) := by decide +kernel
theorem d_FB_cut_34 : decode b_FB_cut 34 = .ok (.getfield 40, 3) := by decide +kernel
theorem d_FB_cut_37 : decode b_FB_cut 37 = .ok (.invokevirtual 240, 3) := by decide +kernel
theorem d_FB_cut_40 : decode b_FB_cut 40 = .ok (.aload_n 0, 1) := by decide +kernel
theorem d_FB_cut_41 : decode b_FB_cut 41 = .ok (.getfield 33, 3) := by decide +kernel
theorem d_FB_cut_44 : decode b_FB_cut 44 = .ok (.getfield 241, 3) := by decide +kernel
theorem d_FB_cut_47 : decode b_FB_cut 47 = .ok (.ireturn, 1) := by decide +kernel
set_option maxRecDepth 20000 in
set_option maxHeartbeats 4000000 in
theorem c_FB_cut (l : Launch) (D : va_G) (fb : Nat) (bu : Nat) (bs : Nat) (re : Nat) (rr : Nat) (rk : Nat) (rl : Nat) (rc : Nat) (di : Nat) (gr : Nat) (de : Nat) (rb : Nat) (rt : Nat) (cI : ClassId) (cZ : ClassId) (x : Int32) (sz : Nat) (h : ¬ x < 0) : xMi l y_FB_cut w_FB_cut { frames := 3, cells := 0, slots := 0, locals := 90 } D cl [.ref fb, .int x] sz [(cI, .int), (cZ, .boolean)] [(fb, .inr (5, [.ref di, .ref gr, .ref re, .ref rl, .ref bu, .ref de])), (bu, .inr (0, [.ref bs, .int 0, .int 0, .int 0])), (bs, .inl (cI, 12, .inl (fun _ => 0))), (re, .inr (3, [.ref rr, .ref rk])), (rr, .inl (cI, 12, .inl (fun _ => 0))), (rk, .inl (cZ, 12, .inl (fun _ => 0))), (rl, .inr (4, [.ref rb, .ref rc, .ref rt, .int 0])), (rc, .inl (cI, 24, .inl (fun _ => (-1))))] (fun (r : Int32) (_ : Unit) => r = 0) (fun _ => []) (fun _ => []) := by
  refine xMi_of (by decide +kernel) rfl (Nat.le_of_ble_eq_true rfl) ?_
  intro p e s m args below meth c ls A B hAe hA hsz hP hK hD hS hAm hTh hAs hl
  obtain ⟨⟨hx, hb, hml, hown, hts⟩, hret, hlk, hnm, hemp⟩ := id B
  have hl : lv_has ls 2 [(0, .ref fb), (1, .int x)] := hl
  refine lv_iload_n hx hb d_FB_cut_0 rfl (lv_at hl 1 rfl) ?_
  refine lv_if_ge (tgt := 14) hx hb d_FB_cut_1 (by decide) (fun b1 => ?_) (fun b1 => ?_)
  · refine lv_aload_n hx hb d_FB_cut_14 rfl (lv_at hl 0 rfl) ?_
    have hPc := hP.sub (ws' := [(fb, .inr (5, [.ref di, .ref gr, .ref re, .ref rl, .ref bu, .ref de])), (bu, .inr (0, [.ref bs, .int 0, .int 0, .int 0]))]) [0, 1] rfl
    have hDc := hD.sub (ws' := [(fb, .inr (5, [.ref di, .ref gr, .ref re, .ref rl, .ref bu, .ref de])), (bu, .inr (0, [.ref bs, .int 0, .int 0, .int 0]))]) [0, 1] (by decide) rfl
    have hKc := hK.sub (tys' := []) [] rfl
    refine xgv (wsC := [(fb, .inr (5, [.ref di, .ref gr, .ref re, .ref rl, .ref bu, .ref de])), (bu, .inr (0, [.ref bs, .int 0, .int 0, .int 0]))]) (wr := [(bs, .inl (cI, 12, .inl (fun _ => 0))), (re, .inr (3, [.ref rr, .ref rk])), (rr, .inl (cI, 12, .inl (fun _ => 0))), (rk, .inl (cZ, 12, .inl (fun _ => 0))), (rl, .inr (4, [.ref rb, .ref rc, .ref rt, .int 0])), (rc, .inl (cI, 24, .inl (fun _ => (-1))))]) (va_runV (As := []) (rest := []) ⟨hx, hb, hml, hown, hts⟩ (c_FB_refuseUnderWay l  D fb bu di gr re rl de bs _ ) ⟨(callB_of 0 hts (x_good k_FB_refuseUnderWay) rfl rfl rfl (hts _ (List.mem_cons_of_mem _ tw_1)) (hts _ (List.mem_cons_of_mem _ tw_392)) (by decide +kernel) ⟨Nat.le_of_ble_eq_true rfl, Nat.le_of_ble_eq_true rfl⟩), (hts _ (List.mem_cons_of_mem _ tw_394)), (hts _ (List.mem_cons_of_mem _ (x_sel 19 rfl)))⟩ (xP_V (va_recv (ci := 5) (q0 := 0) hK hP rfl rfl) hPc hKc hDc hAm hTh hAs hS) rfl rfl hl.1 rfl (lv_room (Nat.le_of_ble_eq_true rfl)) d_FB_cut_15 ⟨Nat.le_of_ble_eq_true rfl, Nat.le_of_ble_eq_true rfl⟩) hP hD hK hS hA [0, 1] [2, 3, 4, 5, 6, 7] rfl rfl (by decide) (by decide) (fun _ H locs _ hP hD hK hS => ?_)
    have hK : va_K D cl [(cI, .int), (cZ, .boolean)] s := hK
    have hP : va_P D cl [(bs, .inl (cI, 12, .inl (fun _ => 0))), (re, .inr (3, [.ref rr, .ref rk])), (rr, .inl (cI, 12, .inl (fun _ => 0))), (rk, .inl (cZ, 12, .inl (fun _ => 0))), (rl, .inr (4, [.ref rb, .ref rc, .ref rt, .int 0])), (rc, .inl (cI, 24, .inl (fun _ => (-1)))), (fb, .inr (5, [.ref di, .ref gr, .ref re, .ref rl, .ref bu, .ref de])), (bu, .inr (0, [.ref bs, .int 0, .int 0, .int 0]))] H := hP
    have hD : va_D A [(bs, .inl (cI, 12, .inl (fun _ => 0))), (re, .inr (3, [.ref rr, .ref rk])), (rr, .inl (cI, 12, .inl (fun _ => 0))), (rk, .inl (cZ, 12, .inl (fun _ => 0))), (rl, .inr (4, [.ref rb, .ref rc, .ref rt, .int 0])), (rc, .inl (cI, 24, .inl (fun _ => (-1)))), (fb, .inr (5, [.ref di, .ref gr, .ref re, .ref rl, .ref bu, .ref de])), (bu, .inr (0, [.ref bs, .int 0, .int 0, .int 0]))] := hD
    refine lv_aload_n hx hb d_FB_cut_18 rfl (lv_at hl 0 rfl) ?_
    refine va_get (D := D) (ci := 5) (v := .ref rl) (C := R_FB) (T := F_FB) (N := 6) hx hb hts (fun w h => List.mem_cons_of_mem _ (u_FB w h)) hown hK hP 6 rfl rfl 3 (by decide) (hts _ (List.mem_cons_of_mem _ tw_149)) (fun _ h9 => h9) rfl d_FB_cut_19 ?_
    refine lv_iload_n hx hb d_FB_cut_22 rfl (lv_at hl 1 rfl) ?_
    have hPc := hP.sub (ws' := [(rl, .inr (4, [.ref rb, .ref rc, .ref rt, .int 0])), (rc, .inl (cI, 24, .inl (fun _ => (-1))))]) [4, 5] rfl
    have hDc := hD.sub (ws' := [(rl, .inr (4, [.ref rb, .ref rc, .ref rt, .int 0])), (rc, .inl (cI, 24, .inl (fun _ => (-1))))]) [4, 5] (by decide) rfl
    have hKc := hK.sub (tys' := [(cI, .int)]) [0] rfl
    refine xgv (wsC := [(rl, .inr (4, [.ref rb, .ref rc, .ref rt, .int 0])), (rc, .inl (cI, 24, .inl (fun _ => (-1))))]) (wr := [(bs, .inl (cI, 12, .inl (fun _ => 0))), (re, .inr (3, [.ref rr, .ref rk])), (rr, .inl (cI, 12, .inl (fun _ => 0))), (rk, .inl (cZ, 12, .inl (fun _ => 0))), (fb, .inr (5, [.ref di, .ref gr, .ref re, .ref rl, .ref bu, .ref de])), (bu, .inr (0, [.ref bs, .int 0, .int 0, .int 0]))]) (va_runVN (As := [.int x]) (rest := []) ⟨hx, hb, hml, hown, hts⟩ (c_RL_readAgain l  D rl rc rb rt cI x _ h) ⟨(va_cnB 1 hts (x_good k_RL_readAgain) rfl rfl rfl (hAm.1 _ (List.mem_of_getElem? (i := 63) rfl)) (hts _ (List.mem_cons_of_mem _ tw_5)) (by decide +kernel) ⟨Nat.le_of_ble_eq_true rfl, Nat.le_of_ble_eq_true rfl⟩), (hts _ (List.mem_cons_of_mem _ tw_637)), (hts _ (List.mem_cons_of_mem _ (x_sel 49 rfl)))⟩ (xP_V (va_recv (ci := 4) (q0 := 4) hK hP rfl rfl) hPc hKc hDc hAm hTh hAs hS) rfl rfl hl.1 rfl (lv_room (Nat.le_of_ble_eq_true rfl)) d_FB_cut_23 ⟨Nat.le_of_ble_eq_true rfl, Nat.le_of_ble_eq_true rfl⟩) hP hD hK hS hA [4, 5] [0, 1, 2, 3, 6, 7] rfl rfl (by decide) (by decide) (fun _ H locs _ hP hD hK hS => ?_)
    have hK : va_K D cl [(cI, .int), (cZ, .boolean)] s := hK
    have hP : va_P D cl [(bs, .inl (cI, 12, .inl (fun _ => 0))), (re, .inr (3, [.ref rr, .ref rk])), (rr, .inl (cI, 12, .inl (fun _ => 0))), (rk, .inl (cZ, 12, .inl (fun _ => 0))), (fb, .inr (5, [.ref di, .ref gr, .ref re, .ref rl, .ref bu, .ref de])), (bu, .inr (0, [.ref bs, .int 0, .int 0, .int 0])), (rl, .inr (4, [.ref rb, .ref rc, .ref rt, .int 0]))] H := hP
    have hD : va_D A [(bs, .inl (cI, 12, .inl (fun _ => 0))), (re, .inr (3, [.ref rr, .ref rk])), (rr, .inl (cI, 12, .inl (fun _ => 0))), (rk, .inl (cZ, 12, .inl (fun _ => 0))), (fb, .inr (5, [.ref di, .ref gr, .ref re, .ref rl, .ref bu, .ref de])), (bu, .inr (0, [.ref bs, .int 0, .int 0, .int 0])), (rl, .inr (4, [.ref rb, .ref rc, .ref rt, .int 0]))] := hD
    refine lv_aload_n hx hb d_FB_cut_26 rfl (lv_at hl 0 rfl) ?_
    refine va_get (D := D) (ci := 5) (v := .ref re) (C := R_FB) (T := F_FB) (N := 6) hx hb hts (fun w h => List.mem_cons_of_mem _ (u_FB w h)) hown hK hP 4 rfl rfl 2 (by decide) (hts _ (List.mem_cons_of_mem _ tw_148)) (fun _ h9 => h9) rfl d_FB_cut_27 ?_
    have hPc := hP.sub (ws' := [(re, .inr (3, [.ref rr, .ref rk])), (rr, .inl (cI, 12, .inl (fun _ => 0))), (rk, .inl (cZ, 12, .inl (fun _ => 0)))]) [1, 2, 3] rfl
    have hDc := hD.sub (ws' := [(re, .inr (3, [.ref rr, .ref rk])), (rr, .inl (cI, 12, .inl (fun _ => 0))), (rk, .inl (cZ, 12, .inl (fun _ => 0)))]) [1, 2, 3] (by decide) rfl
    have hKc := hK.sub (tys' := [(cI, .int), (cZ, .boolean)]) [0, 1] rfl
    refine xgv (wsC := [(re, .inr (3, [.ref rr, .ref rk])), (rr, .inl (cI, 12, .inl (fun _ => 0))), (rk, .inl (cZ, 12, .inl (fun _ => 0)))]) (wr := [(bs, .inl (cI, 12, .inl (fun _ => 0))), (fb, .inr (5, [.ref di, .ref gr, .ref re, .ref rl, .ref bu, .ref de])), (bu, .inr (0, [.ref bs, .int 0, .int 0, .int 0])), (rl, .inr (4, [.ref rb, .ref rc, .ref rt, .int 0]))]) (va_runVN (As := []) (rest := []) ⟨hx, hb, hml, hown, hts⟩ (c_Re_forget l  D re rr rk cI cZ _ ) ⟨(va_cnB 0 hts (x_good k_Re_forget) rfl rfl rfl (hAm.1 _ (List.mem_of_getElem? (i := 65) rfl)) (hts _ (List.mem_cons_of_mem _ tw_4)) (by decide +kernel) ⟨Nat.le_of_ble_eq_true rfl, Nat.le_of_ble_eq_true rfl⟩), (hts _ (List.mem_cons_of_mem _ tw_653)), (hts _ (List.mem_cons_of_mem _ (x_sel 52 rfl)))⟩ (xP_V (va_recv (ci := 3) (q0 := 1) hK hP rfl rfl) hPc hKc hDc hAm hTh hAs hS) rfl rfl hl.1 rfl (lv_room (Nat.le_of_ble_eq_true rfl)) d_FB_cut_30 ⟨Nat.le_of_ble_eq_true rfl, Nat.le_of_ble_eq_true rfl⟩) hP hD hK hS hA [1, 2, 3] [0, 4, 5, 6] rfl rfl (by decide) (by decide) (fun _ H locs _ hP hD hK hS => ?_)
    have hK : va_K D cl [(cI, .int), (cZ, .boolean)] s := hK
    have hP : va_P D cl [(bs, .inl (cI, 12, .inl (fun _ => 0))), (fb, .inr (5, [.ref di, .ref gr, .ref re, .ref rl, .ref bu, .ref de])), (bu, .inr (0, [.ref bs, .int 0, .int 0, .int 0])), (rl, .inr (4, [.ref rb, .ref rc, .ref rt, .int 0]))] H := hP
    have hD : va_D A [(bs, .inl (cI, 12, .inl (fun _ => 0))), (fb, .inr (5, [.ref di, .ref gr, .ref re, .ref rl, .ref bu, .ref de])), (bu, .inr (0, [.ref bs, .int 0, .int 0, .int 0])), (rl, .inr (4, [.ref rb, .ref rc, .ref rt, .int 0]))] := hD
    refine lv_aload_n hx hb d_FB_cut_33 rfl (lv_at hl 0 rfl) ?_
    refine va_get (D := D) (ci := 5) (v := .ref bu) (C := R_FB) (T := F_FB) (N := 6) hx hb hts (fun w h => List.mem_cons_of_mem _ (u_FB w h)) hown hK hP 1 rfl rfl 4 (by decide) (hts _ (List.mem_cons_of_mem _ tw_150)) (fun _ h9 => h9) rfl d_FB_cut_34 ?_
    have hPc := hP.sub (ws' := [(bu, .inr (0, [.ref bs, .int 0, .int 0, .int 0])), (bs, .inl (cI, 12, .inl (fun _ => 0)))]) [2, 0] rfl
    have hDc := hD.sub (ws' := [(bu, .inr (0, [.ref bs, .int 0, .int 0, .int 0])), (bs, .inl (cI, 12, .inl (fun _ => 0)))]) [2, 0] (by decide) rfl
    have hKc := hK.sub (tys' := [(cI, .int)]) [0] rfl
    refine xgv (wsC := [(bu, .inr (0, [.ref bs, .int 0, .int 0, .int 0])), (bs, .inl (cI, 12, .inl (fun _ => 0)))]) (wr := [(fb, .inr (5, [.ref di, .ref gr, .ref re, .ref rl, .ref bu, .ref de])), (rl, .inr (4, [.ref rb, .ref rc, .ref rt, .int 0]))]) (va_runVN (As := []) (rest := []) ⟨hx, hb, hml, hown, hts⟩ (c_Bu_forget l  D bu bs cI _ ) ⟨(va_cnB 0 hts (x_good k_Bu_forget) rfl rfl rfl (hAm.1 _ (List.mem_of_getElem? (i := 66) rfl)) (hts _ (List.mem_cons_of_mem _ tw_7)) (by decide +kernel) ⟨Nat.le_of_ble_eq_true rfl, Nat.le_of_ble_eq_true rfl⟩), (hts _ (List.mem_cons_of_mem _ tw_657)), (hts _ (List.mem_cons_of_mem _ (x_sel 53 rfl)))⟩ (xP_V (va_recv (ci := 0) (q0 := 2) hK hP rfl rfl) hPc hKc hDc hAm hTh hAs hS) rfl rfl hl.1 rfl (lv_room (Nat.le_of_ble_eq_true rfl)) d_FB_cut_37 ⟨Nat.le_of_ble_eq_true rfl, Nat.le_of_ble_eq_true rfl⟩) hP hD hK hS hA [2, 0] [1, 3] rfl rfl (by decide) (by decide) (fun _ H locs _ hP hD hK hS => ?_)
    have hK : va_K D cl [(cI, .int), (cZ, .boolean)] s := hK
    have hP : va_P D cl [(fb, .inr (5, [.ref di, .ref gr, .ref re, .ref rl, .ref bu, .ref de])), (rl, .inr (4, [.ref rb, .ref rc, .ref rt, .int 0]))] H := hP
    have hD : va_D A [(fb, .inr (5, [.ref di, .ref gr, .ref re, .ref rl, .ref bu, .ref de])), (rl, .inr (4, [.ref rb, .ref rc, .ref rt, .int 0]))] := hD
    refine lv_aload_n hx hb d_FB_cut_40 rfl (lv_at hl 0 rfl) ?_
    refine va_get (D := D) (ci := 5) (v := .ref rl) (C := R_FB) (T := F_FB) (N := 6) hx hb hts (fun w h => List.mem_cons_of_mem _ (u_FB w h)) hown hK hP 0 rfl rfl 3 (by decide) (hts _ (List.mem_cons_of_mem _ tw_149)) (fun _ h9 => h9) rfl d_FB_cut_41 ?_
    refine va_getN (D := D) (ci := 4) (v := .int 0) (C := R_RL) (T := F_RL) (N := 4) hx hb hts (fun w h => List.mem_cons_of_mem _ (u_RL w h)) hown hK hP 1 rfl rfl 3 (by decide) (va_Nw.use rfl (hAm.1 _ (List.mem_of_getElem? (i := 17) rfl))) (fun _ h9 => h9) rfl d_FB_cut_44 ?_
    exact xri () B d_FB_cut_47 (rfl) (hP.sub (ws' := []) [] rfl) (hK.sub (tys' := []) [] rfl) (hD.sub (ws' := []) [] (by decide) rfl) hS (Nat.le_of_ble_eq_true rfl) (Nat.le_of_ble_eq_true rfl)
  · exact absurd (xge_lt b1) h
theorem d_FB_cut_4 : decode b_FB_cut 4 = .ok (.new 65, 3) := by decide +kernel
theorem d_FB_cut_7 : decode b_FB_cut 7 = .ok (.dup, 1) := by decide +kernel
theorem d_FB_cut_8 : decode b_FB_cut 8 = .ok (.ldc 232, 2) := by decide +kernel
theorem d_FB_cut_10 : decode b_FB_cut 10 = .ok (.invokespecial 69, 3) := by decide +kernel
theorem d_FB_cut_13 : decode b_FB_cut 13 = .ok (.athrow, 1) := by decide +kernel
set_option maxRecDepth 20000 in
set_option maxHeartbeats 4000000 in
theorem c_FB_cut_t (l : Launch) (hfl : l.flags = pinnedFlags ++ [noTraceFlag]) (D : va_G) (fb : Nat) (bu : Nat) (di : Nat) (gr : Nat) (re : Nat) (rl : Nat) (de : Nat) (bs : Nat) (x : Int32) (sz : Nat) (h : x < 0) : xMt l y_FB_cut w_FB_cut { frames := 7, cells := 1, slots := 6, locals := 110 } D cl [.ref fb, .int x] sz [] [(fb, .inr (5, [.ref di, .ref gr, .ref re, .ref rl, .ref bu, .ref de])), (bu, .inr (0, [.ref bs, .int 0, .int 0, .int 0]))] "java/lang/IllegalArgumentException" := by
  refine xMt_of (by decide +kernel) rfl (Nat.le_of_ble_eq_true rfl) ?_
  intro p e s m args below meth c ls A B hAe hA hsz hP hK hD hS hAm hTh hAs hl
  obtain ⟨⟨hx, hb, hml, hown, hts⟩, hret, hlk, hnm, hemp⟩ := id B
  have hl : lv_has ls 2 [(0, .ref fb), (1, .int x)] := hl
  refine lv_iload_n hx hb d_FB_cut_0 rfl (lv_at hl 1 rfl) ?_
  refine lv_if_ge (tgt := 14) hx hb d_FB_cut_1 (by decide) (fun b1 => ?_) (fun b1 => ?_)
  · exact absurd b1 (xlt_ge h)
  · obtain ⟨qz, hZ⟩ := hAm.2.1 _ (List.mem_of_getElem? (i := 18) rfl)
    exact xt_throw hx hb (hml.trans hl.1.symm) hfl hlk hemp (names := ["java/lang/RuntimeException", "java/lang/Exception"]) hown (hts _ (List.mem_cons_of_mem _ tw_249)) (hts _ (List.mem_cons_of_mem _ tw_250)) (hts _ (List.mem_cons_of_mem _ tw_12)) (by decide +kernel) (by decide +kernel) (xOwn own_IAE hts hAm hTh) hZ hS hAs (Nat.le_of_ble_eq_true rfl) (Nat.le_of_ble_eq_true rfl) (Nat.le_of_ble_eq_true rfl) (Nat.le_of_ble_eq_true rfl) (by decide) (Nat.le_of_ble_eq_true rfl) d_FB_cut_4 d_FB_cut_7 d_FB_cut_8 d_FB_cut_10 d_FB_cut_13
end
