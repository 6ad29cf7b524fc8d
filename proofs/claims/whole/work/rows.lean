section
-- ===== PART A: goes FIRST, ahead of the names: the tables' words, and 'selects' of the private methods out of them =====
/-- a private method of a class that the tables say can be made, by its rows of tables_1 -/
def lw_okq (q : MethodName × Nat) : Prop := (q.1.cls ≠ "java/lang/invoke/MethodHandle" ∧ q.1.cls ≠ "java/lang/invoke/VarHandle") ∧ Cond.instantiable q.1.cls q.2 ∈ tables_1 ∧ Cond.privateMethod q.1 ∈ tables_1 ∧ Cond.instanceMethod q.1 ∈ tables_1
theorem lw_p0 : lw_okq (⟨"GraphLog", "startAnew", "(I)V"⟩, 6) := ⟨⟨by decide +kernel, by decide +kernel⟩, List.mem_of_getElem? (i := 18) (by decide +kernel), List.mem_of_getElem? (i := 141) (by decide +kernel), List.mem_of_getElem? (i := 142) (by decide +kernel)⟩
theorem lw_p1 : lw_okq (⟨"GraphLog", "writeHead", "()V"⟩, 6) := ⟨⟨by decide +kernel, by decide +kernel⟩, List.mem_of_getElem? (i := 18) (by decide +kernel), List.mem_of_getElem? (i := 163) (by decide +kernel), List.mem_of_getElem? (i := 164) (by decide +kernel)⟩
theorem lw_p2 : lw_okq (⟨"GraphLog$Disk", "writeByte", "(I)V"⟩, 4) := ⟨⟨by decide +kernel, by decide +kernel⟩, List.mem_of_getElem? (i := 26) (by decide +kernel), List.mem_of_getElem? (i := 175) (by decide +kernel), List.mem_of_getElem? (i := 176) (by decide +kernel)⟩
theorem lw_p3 : lw_okq (⟨"GraphLog", "headToTake", "()I"⟩, 6) := ⟨⟨by decide +kernel, by decide +kernel⟩, List.mem_of_getElem? (i := 18) (by decide +kernel), List.mem_of_getElem? (i := 233) (by decide +kernel), List.mem_of_getElem? (i := 234) (by decide +kernel)⟩
theorem lw_p4 : lw_okq (⟨"GraphLog", "isHeadRight", "(I)Z"⟩, 6) := ⟨⟨by decide +kernel, by decide +kernel⟩, List.mem_of_getElem? (i := 18) (by decide +kernel), List.mem_of_getElem? (i := 237) (by decide +kernel), List.mem_of_getElem? (i := 238) (by decide +kernel)⟩
theorem lw_p5 : lw_okq (⟨"GraphLog$Known", "isRowRight", "(LGraphLog$Disk;II)Z"⟩, 12) := ⟨⟨by decide +kernel, by decide +kernel⟩, List.mem_of_getElem? (i := 49) (by decide +kernel), List.mem_of_getElem? (i := 251) (by decide +kernel), List.mem_of_getElem? (i := 252) (by decide +kernel)⟩
theorem lw_p6 : lw_okq (⟨"GraphLog$Known", "isTextRight", "(LGraphLog$Disk;I)Z"⟩, 12) := ⟨⟨by decide +kernel, by decide +kernel⟩, List.mem_of_getElem? (i := 49) (by decide +kernel), List.mem_of_getElem? (i := 261) (by decide +kernel), List.mem_of_getElem? (i := 262) (by decide +kernel)⟩
theorem lw_p7 : lw_okq (⟨"GraphLog$Chunks", "isSlot", "(I)Z"⟩, 4) := ⟨⟨by decide +kernel, by decide +kernel⟩, List.mem_of_getElem? (i := 55) (by decide +kernel), List.mem_of_getElem? (i := 273) (by decide +kernel), List.mem_of_getElem? (i := 274) (by decide +kernel)⟩
theorem lw_p8 : lw_okq (⟨"GraphLog$Known", "isChange", "(III)Z"⟩, 12) := ⟨⟨by decide +kernel, by decide +kernel⟩, List.mem_of_getElem? (i := 49) (by decide +kernel), List.mem_of_getElem? (i := 277) (by decide +kernel), List.mem_of_getElem? (i := 278) (by decide +kernel)⟩
theorem lw_p9 : lw_okq (⟨"GraphLog$Known", "haveCome", "(LGraphLog$Disk;I)Z"⟩, 12) := ⟨⟨by decide +kernel, by decide +kernel⟩, List.mem_of_getElem? (i := 49) (by decide +kernel), List.mem_of_getElem? (i := 285) (by decide +kernel), List.mem_of_getElem? (i := 286) (by decide +kernel)⟩
theorem lw_p10 : lw_okq (⟨"GraphLog$Chunks", "addSlot", "(I)I"⟩, 4) := ⟨⟨by decide +kernel, by decide +kernel⟩, List.mem_of_getElem? (i := 55) (by decide +kernel), List.mem_of_getElem? (i := 302) (by decide +kernel), List.mem_of_getElem? (i := 303) (by decide +kernel)⟩
theorem lw_p11 : lw_okq (⟨"GraphLog$Known", "takeChange", "(II)V"⟩, 12) := ⟨⟨by decide +kernel, by decide +kernel⟩, List.mem_of_getElem? (i := 49) (by decide +kernel), List.mem_of_getElem? (i := 307) (by decide +kernel), List.mem_of_getElem? (i := 308) (by decide +kernel)⟩
theorem lw_p12 : lw_okq (⟨"GraphLog$Known", "takeVersion", "(LGraphLog$Disk;I)V"⟩, 12) := ⟨⟨by decide +kernel, by decide +kernel⟩, List.mem_of_getElem? (i := 49) (by decide +kernel), List.mem_of_getElem? (i := 311) (by decide +kernel), List.mem_of_getElem? (i := 312) (by decide +kernel)⟩
theorem lw_p13 : lw_okq (⟨"GraphLog$Known", "nameChunks", "(II)V"⟩, 12) := ⟨⟨by decide +kernel, by decide +kernel⟩, List.mem_of_getElem? (i := 49) (by decide +kernel), List.mem_of_getElem? (i := 315) (by decide +kernel), List.mem_of_getElem? (i := 316) (by decide +kernel)⟩
theorem lw_p14 : lw_okq (⟨"GraphLog$Known", "hasBefore", "(II)Z"⟩, 12) := ⟨⟨by decide +kernel, by decide +kernel⟩, List.mem_of_getElem? (i := 49) (by decide +kernel), List.mem_of_getElem? (i := 319) (by decide +kernel), List.mem_of_getElem? (i := 320) (by decide +kernel)⟩
theorem lw_p15 : lw_okq (⟨"GraphLog$Known", "takeAnswer", "(IJ)V"⟩, 12) := ⟨⟨by decide +kernel, by decide +kernel⟩, List.mem_of_getElem? (i := 49) (by decide +kernel), List.mem_of_getElem? (i := 331) (by decide +kernel), List.mem_of_getElem? (i := 332) (by decide +kernel)⟩
def lw_privs_1 : List (MethodName × Nat) := [(⟨"GraphLog", "startAnew", "(I)V"⟩, 6), (⟨"GraphLog", "writeHead", "()V"⟩, 6), (⟨"GraphLog$Disk", "writeByte", "(I)V"⟩, 4), (⟨"GraphLog", "headToTake", "()I"⟩, 6), (⟨"GraphLog", "isHeadRight", "(I)Z"⟩, 6), (⟨"GraphLog$Known", "isRowRight", "(LGraphLog$Disk;II)Z"⟩, 12), (⟨"GraphLog$Known", "isTextRight", "(LGraphLog$Disk;I)Z"⟩, 12), (⟨"GraphLog$Chunks", "isSlot", "(I)Z"⟩, 4), (⟨"GraphLog$Known", "isChange", "(III)Z"⟩, 12), (⟨"GraphLog$Known", "haveCome", "(LGraphLog$Disk;I)Z"⟩, 12), (⟨"GraphLog$Chunks", "addSlot", "(I)I"⟩, 4), (⟨"GraphLog$Known", "takeChange", "(II)V"⟩, 12), (⟨"GraphLog$Known", "takeVersion", "(LGraphLog$Disk;I)V"⟩, 12), (⟨"GraphLog$Known", "nameChunks", "(II)V"⟩, 12), (⟨"GraphLog$Known", "hasBefore", "(II)Z"⟩, 12), (⟨"GraphLog$Known", "takeAnswer", "(IJ)V"⟩, 12)]
theorem lw_r1 : ∀ q ∈ lw_privs_1, lw_okq q := List.forall_mem_cons.mpr ⟨lw_p0, List.forall_mem_cons.mpr ⟨lw_p1, List.forall_mem_cons.mpr ⟨lw_p2, List.forall_mem_cons.mpr ⟨lw_p3, List.forall_mem_cons.mpr ⟨lw_p4, List.forall_mem_cons.mpr ⟨lw_p5, List.forall_mem_cons.mpr ⟨lw_p6, List.forall_mem_cons.mpr ⟨lw_p7, List.forall_mem_cons.mpr ⟨lw_p8, List.forall_mem_cons.mpr ⟨lw_p9, List.forall_mem_cons.mpr ⟨lw_p10, List.forall_mem_cons.mpr ⟨lw_p11, List.forall_mem_cons.mpr ⟨lw_p12, List.forall_mem_cons.mpr ⟨lw_p13, List.forall_mem_cons.mpr ⟨lw_p14, List.forall_mem_cons.mpr ⟨lw_p15, fun _ h => absurd h List.not_mem_nil⟩⟩⟩⟩⟩⟩⟩⟩⟩⟩⟩⟩⟩⟩⟩⟩
theorem lw_p16 : lw_okq (⟨"GraphLog$Known", "takeDrop", "(I)V"⟩, 12) := ⟨⟨by decide +kernel, by decide +kernel⟩, List.mem_of_getElem? (i := 49) (by decide +kernel), List.mem_of_getElem? (i := 335) (by decide +kernel), List.mem_of_getElem? (i := 336) (by decide +kernel)⟩
theorem lw_p17 : lw_okq (⟨"java/lang/Throwable", "fillInStackTrace", "(I)Ljava/lang/Throwable;"⟩, 6) := ⟨⟨by decide +kernel, by decide +kernel⟩, List.mem_of_getElem? (i := 395) (by decide +kernel), List.mem_of_getElem? (i := 393) (by decide +kernel), List.mem_of_getElem? (i := 394) (by decide +kernel)⟩
theorem lw_p18 : lw_okq (⟨"GraphLog", "requireOpen", "()V"⟩, 6) := ⟨⟨by decide +kernel, by decide +kernel⟩, List.mem_of_getElem? (i := 18) (by decide +kernel), List.mem_of_getElem? (i := 450) (by decide +kernel), List.mem_of_getElem? (i := 451) (by decide +kernel)⟩
theorem lw_p19 : lw_okq (⟨"GraphLog", "requireNode", "(I)V"⟩, 6) := ⟨⟨by decide +kernel, by decide +kernel⟩, List.mem_of_getElem? (i := 18) (by decide +kernel), List.mem_of_getElem? (i := 470) (by decide +kernel), List.mem_of_getElem? (i := 471) (by decide +kernel)⟩
theorem lw_p20 : lw_okq (⟨"GraphLog", "logHasRoom", "(I)Z"⟩, 6) := ⟨⟨by decide +kernel, by decide +kernel⟩, List.mem_of_getElem? (i := 18) (by decide +kernel), List.mem_of_getElem? (i := 502) (by decide +kernel), List.mem_of_getElem? (i := 503) (by decide +kernel)⟩
theorem lw_p21 : lw_okq (⟨"GraphLog", "startRow", "(II)V"⟩, 6) := ⟨⟨by decide +kernel, by decide +kernel⟩, List.mem_of_getElem? (i := 18) (by decide +kernel), List.mem_of_getElem? (i := 506) (by decide +kernel), List.mem_of_getElem? (i := 507) (by decide +kernel)⟩
theorem lw_p22 : lw_okq (⟨"GraphLog", "endRow", "()V"⟩, 6) := ⟨⟨by decide +kernel, by decide +kernel⟩, List.mem_of_getElem? (i := 18) (by decide +kernel), List.mem_of_getElem? (i := 511) (by decide +kernel), List.mem_of_getElem? (i := 512) (by decide +kernel)⟩
theorem lw_p23 : lw_okq (⟨"GraphLog$Chunks", "isAlike", "(ILGraphLog$Known;I)Z"⟩, 4) := ⟨⟨by decide +kernel, by decide +kernel⟩, List.mem_of_getElem? (i := 55) (by decide +kernel), List.mem_of_getElem? (i := 540) (by decide +kernel), List.mem_of_getElem? (i := 541) (by decide +kernel)⟩
theorem lw_p24 : lw_okq (⟨"GraphLog$Plan", "alikeBefore", "(LGraphLog$Known;I)I"⟩, 4) := ⟨⟨by decide +kernel, by decide +kernel⟩, List.mem_of_getElem? (i := 122) (by decide +kernel), List.mem_of_getElem? (i := 546) (by decide +kernel), List.mem_of_getElem? (i := 547) (by decide +kernel)⟩
theorem lw_p25 : lw_okq (⟨"GraphLog$Plan", "areAlike", "(LGraphLog$Known;II)Z"⟩, 4) := ⟨⟨by decide +kernel, by decide +kernel⟩, List.mem_of_getElem? (i := 122) (by decide +kernel), List.mem_of_getElem? (i := 550) (by decide +kernel), List.mem_of_getElem? (i := 551) (by decide +kernel)⟩
theorem lw_p26 : lw_okq (⟨"GraphLog$Plan", "takeLeast", "(I)I"⟩, 4) := ⟨⟨by decide +kernel, by decide +kernel⟩, List.mem_of_getElem? (i := 122) (by decide +kernel), List.mem_of_getElem? (i := 559) (by decide +kernel), List.mem_of_getElem? (i := 560) (by decide +kernel)⟩
theorem lw_p27 : lw_okq (⟨"GraphLog", "writeChunk", "(II)V"⟩, 6) := ⟨⟨by decide +kernel, by decide +kernel⟩, List.mem_of_getElem? (i := 18) (by decide +kernel), List.mem_of_getElem? (i := 572) (by decide +kernel), List.mem_of_getElem? (i := 573) (by decide +kernel)⟩
theorem lw_p28 : lw_okq (⟨"GraphLog", "requireVersion", "(I)V"⟩, 6) := ⟨⟨by decide +kernel, by decide +kernel⟩, List.mem_of_getElem? (i := 18) (by decide +kernel), List.mem_of_getElem? (i := 584) (by decide +kernel), List.mem_of_getElem? (i := 585) (by decide +kernel)⟩
theorem lw_p29 : lw_okq (⟨"GraphLog", "reachedFrom", "(II)J"⟩, 6) := ⟨⟨by decide +kernel, by decide +kernel⟩, List.mem_of_getElem? (i := 18) (by decide +kernel), List.mem_of_getElem? (i := 590) (by decide +kernel), List.mem_of_getElem? (i := 591) (by decide +kernel)⟩
theorem lw_p30 : lw_okq (⟨"GraphLog", "oneEdgeOn", "(IJ)J"⟩, 6) := ⟨⟨by decide +kernel, by decide +kernel⟩, List.mem_of_getElem? (i := 18) (by decide +kernel), List.mem_of_getElem? (i := 594) (by decide +kernel), List.mem_of_getElem? (i := 595) (by decide +kernel)⟩
theorem lw_p31 : lw_okq (⟨"GraphLog", "requirePlace", "(I)V"⟩, 6) := ⟨⟨by decide +kernel, by decide +kernel⟩, List.mem_of_getElem? (i := 18) (by decide +kernel), List.mem_of_getElem? (i := 625) (by decide +kernel), List.mem_of_getElem? (i := 626) (by decide +kernel)⟩
def lw_privs_2 : List (MethodName × Nat) := [(⟨"GraphLog$Known", "takeDrop", "(I)V"⟩, 12), (⟨"java/lang/Throwable", "fillInStackTrace", "(I)Ljava/lang/Throwable;"⟩, 6), (⟨"GraphLog", "requireOpen", "()V"⟩, 6), (⟨"GraphLog", "requireNode", "(I)V"⟩, 6), (⟨"GraphLog", "logHasRoom", "(I)Z"⟩, 6), (⟨"GraphLog", "startRow", "(II)V"⟩, 6), (⟨"GraphLog", "endRow", "()V"⟩, 6), (⟨"GraphLog$Chunks", "isAlike", "(ILGraphLog$Known;I)Z"⟩, 4), (⟨"GraphLog$Plan", "alikeBefore", "(LGraphLog$Known;I)I"⟩, 4), (⟨"GraphLog$Plan", "areAlike", "(LGraphLog$Known;II)Z"⟩, 4), (⟨"GraphLog$Plan", "takeLeast", "(I)I"⟩, 4), (⟨"GraphLog", "writeChunk", "(II)V"⟩, 6), (⟨"GraphLog", "requireVersion", "(I)V"⟩, 6), (⟨"GraphLog", "reachedFrom", "(II)J"⟩, 6), (⟨"GraphLog", "oneEdgeOn", "(IJ)J"⟩, 6), (⟨"GraphLog", "requirePlace", "(I)V"⟩, 6)]
theorem lw_r2 : ∀ q ∈ lw_privs_2, lw_okq q := List.forall_mem_cons.mpr ⟨lw_p16, List.forall_mem_cons.mpr ⟨lw_p17, List.forall_mem_cons.mpr ⟨lw_p18, List.forall_mem_cons.mpr ⟨lw_p19, List.forall_mem_cons.mpr ⟨lw_p20, List.forall_mem_cons.mpr ⟨lw_p21, List.forall_mem_cons.mpr ⟨lw_p22, List.forall_mem_cons.mpr ⟨lw_p23, List.forall_mem_cons.mpr ⟨lw_p24, List.forall_mem_cons.mpr ⟨lw_p25, List.forall_mem_cons.mpr ⟨lw_p26, List.forall_mem_cons.mpr ⟨lw_p27, List.forall_mem_cons.mpr ⟨lw_p28, List.forall_mem_cons.mpr ⟨lw_p29, List.forall_mem_cons.mpr ⟨lw_p30, List.forall_mem_cons.mpr ⟨lw_p31, fun _ h => absurd h List.not_mem_nil⟩⟩⟩⟩⟩⟩⟩⟩⟩⟩⟩⟩⟩⟩⟩⟩
theorem lw_p32 : lw_okq (⟨"GraphLog", "requireGraph", "(I)V"⟩, 6) := ⟨⟨by decide +kernel, by decide +kernel⟩, List.mem_of_getElem? (i := 18) (by decide +kernel), List.mem_of_getElem? (i := 653) (by decide +kernel), List.mem_of_getElem? (i := 654) (by decide +kernel)⟩
theorem lw_p33 : lw_okq (⟨"GraphLog", "requireAnswer", "(I)V"⟩, 6) := ⟨⟨by decide +kernel, by decide +kernel⟩, List.mem_of_getElem? (i := 18) (by decide +kernel), List.mem_of_getElem? (i := 704) (by decide +kernel), List.mem_of_getElem? (i := 705) (by decide +kernel)⟩
theorem lw_p34 : lw_okq (⟨"GraphLogModel", "anew", "(I)V"⟩, 31) := ⟨⟨by decide +kernel, by decide +kernel⟩, List.mem_of_getElem? (i := 737) (by decide +kernel), List.mem_of_getElem? (i := 745) (by decide +kernel), List.mem_of_getElem? (i := 746) (by decide +kernel)⟩
theorem lw_p35 : lw_okq (⟨"GraphLogModel", "forget", "()V"⟩, 31) := ⟨⟨by decide +kernel, by decide +kernel⟩, List.mem_of_getElem? (i := 737) (by decide +kernel), List.mem_of_getElem? (i := 749) (by decide +kernel), List.mem_of_getElem? (i := 750) (by decide +kernel)⟩
theorem lw_p36 : lw_okq (⟨"GraphLogModel", "putHead", "(I)V"⟩, 31) := ⟨⟨by decide +kernel, by decide +kernel⟩, List.mem_of_getElem? (i := 737) (by decide +kernel), List.mem_of_getElem? (i := 753) (by decide +kernel), List.mem_of_getElem? (i := 754) (by decide +kernel)⟩
theorem lw_p37 : lw_okq (⟨"GraphLogModel", "putNumber", "(IJI)V"⟩, 31) := ⟨⟨by decide +kernel, by decide +kernel⟩, List.mem_of_getElem? (i := 737) (by decide +kernel), List.mem_of_getElem? (i := 757) (by decide +kernel), List.mem_of_getElem? (i := 758) (by decide +kernel)⟩
theorem lw_p38 : lw_okq (⟨"GraphLogModel", "put", "(II)V"⟩, 31) := ⟨⟨by decide +kernel, by decide +kernel⟩, List.mem_of_getElem? (i := 737) (by decide +kernel), List.mem_of_getElem? (i := 761) (by decide +kernel), List.mem_of_getElem? (i := 762) (by decide +kernel)⟩
theorem lw_p39 : lw_okq (⟨"GraphLogModel", "sum", "(JII)J"⟩, 31) := ⟨⟨by decide +kernel, by decide +kernel⟩, List.mem_of_getElem? (i := 737) (by decide +kernel), List.mem_of_getElem? (i := 765) (by decide +kernel), List.mem_of_getElem? (i := 766) (by decide +kernel)⟩
theorem lw_p40 : lw_okq (⟨"GraphLogModel", "hasNow", "(II)Z"⟩, 31) := ⟨⟨by decide +kernel, by decide +kernel⟩, List.mem_of_getElem? (i := 737) (by decide +kernel), List.mem_of_getElem? (i := 878) (by decide +kernel), List.mem_of_getElem? (i := 879) (by decide +kernel)⟩
theorem lw_p41 : lw_okq (⟨"GraphLogModel", "fits", "(I)Z"⟩, 31) := ⟨⟨by decide +kernel, by decide +kernel⟩, List.mem_of_getElem? (i := 737) (by decide +kernel), List.mem_of_getElem? (i := 882) (by decide +kernel), List.mem_of_getElem? (i := 883) (by decide +kernel)⟩
theorem lw_p42 : lw_okq (⟨"GraphLogModel", "begin", "(III)I"⟩, 31) := ⟨⟨by decide +kernel, by decide +kernel⟩, List.mem_of_getElem? (i := 737) (by decide +kernel), List.mem_of_getElem? (i := 886) (by decide +kernel), List.mem_of_getElem? (i := 887) (by decide +kernel)⟩
theorem lw_p43 : lw_okq (⟨"GraphLogModel", "end", "(I)V"⟩, 31) := ⟨⟨by decide +kernel, by decide +kernel⟩, List.mem_of_getElem? (i := 737) (by decide +kernel), List.mem_of_getElem? (i := 890) (by decide +kernel), List.mem_of_getElem? (i := 891) (by decide +kernel)⟩
theorem lw_p44 : lw_okq (⟨"GraphLogModel", "take", "(II)V"⟩, 31) := ⟨⟨by decide +kernel, by decide +kernel⟩, List.mem_of_getElem? (i := 737) (by decide +kernel), List.mem_of_getElem? (i := 894) (by decide +kernel), List.mem_of_getElem? (i := 895) (by decide +kernel)⟩
theorem lw_p45 : lw_okq (⟨"GraphLogModel", "number", "(II)J"⟩, 31) := ⟨⟨by decide +kernel, by decide +kernel⟩, List.mem_of_getElem? (i := 737) (by decide +kernel), List.mem_of_getElem? (i := 898) (by decide +kernel), List.mem_of_getElem? (i := 899) (by decide +kernel)⟩
theorem lw_p46 : lw_okq (⟨"GraphLogModel", "find", "(I)I"⟩, 31) := ⟨⟨by decide +kernel, by decide +kernel⟩, List.mem_of_getElem? (i := 737) (by decide +kernel), List.mem_of_getElem? (i := 906) (by decide +kernel), List.mem_of_getElem? (i := 907) (by decide +kernel)⟩
theorem lw_p47 : lw_okq (⟨"GraphLogModel", "isAlike", "(II)Z"⟩, 31) := ⟨⟨by decide +kernel, by decide +kernel⟩, List.mem_of_getElem? (i := 737) (by decide +kernel), List.mem_of_getElem? (i := 910) (by decide +kernel), List.mem_of_getElem? (i := 911) (by decide +kernel)⟩
def lw_privs_3 : List (MethodName × Nat) := [(⟨"GraphLog", "requireGraph", "(I)V"⟩, 6), (⟨"GraphLog", "requireAnswer", "(I)V"⟩, 6), (⟨"GraphLogModel", "anew", "(I)V"⟩, 31), (⟨"GraphLogModel", "forget", "()V"⟩, 31), (⟨"GraphLogModel", "putHead", "(I)V"⟩, 31), (⟨"GraphLogModel", "putNumber", "(IJI)V"⟩, 31), (⟨"GraphLogModel", "put", "(II)V"⟩, 31), (⟨"GraphLogModel", "sum", "(JII)J"⟩, 31), (⟨"GraphLogModel", "hasNow", "(II)Z"⟩, 31), (⟨"GraphLogModel", "fits", "(I)Z"⟩, 31), (⟨"GraphLogModel", "begin", "(III)I"⟩, 31), (⟨"GraphLogModel", "end", "(I)V"⟩, 31), (⟨"GraphLogModel", "take", "(II)V"⟩, 31), (⟨"GraphLogModel", "number", "(II)J"⟩, 31), (⟨"GraphLogModel", "find", "(I)I"⟩, 31), (⟨"GraphLogModel", "isAlike", "(II)Z"⟩, 31)]
theorem lw_r3 : ∀ q ∈ lw_privs_3, lw_okq q := List.forall_mem_cons.mpr ⟨lw_p32, List.forall_mem_cons.mpr ⟨lw_p33, List.forall_mem_cons.mpr ⟨lw_p34, List.forall_mem_cons.mpr ⟨lw_p35, List.forall_mem_cons.mpr ⟨lw_p36, List.forall_mem_cons.mpr ⟨lw_p37, List.forall_mem_cons.mpr ⟨lw_p38, List.forall_mem_cons.mpr ⟨lw_p39, List.forall_mem_cons.mpr ⟨lw_p40, List.forall_mem_cons.mpr ⟨lw_p41, List.forall_mem_cons.mpr ⟨lw_p42, List.forall_mem_cons.mpr ⟨lw_p43, List.forall_mem_cons.mpr ⟨lw_p44, List.forall_mem_cons.mpr ⟨lw_p45, List.forall_mem_cons.mpr ⟨lw_p46, List.forall_mem_cons.mpr ⟨lw_p47, fun _ h => absurd h List.not_mem_nil⟩⟩⟩⟩⟩⟩⟩⟩⟩⟩⟩⟩⟩⟩⟩⟩
theorem lw_p48 : lw_okq (⟨"GraphLogModel", "earlier", "(I)I"⟩, 31) := ⟨⟨by decide +kernel, by decide +kernel⟩, List.mem_of_getElem? (i := 737) (by decide +kernel), List.mem_of_getElem? (i := 914) (by decide +kernel), List.mem_of_getElem? (i := 915) (by decide +kernel)⟩
theorem lw_p49 : lw_okq (⟨"GraphLogModel", "leastFree", "(I)I"⟩, 31) := ⟨⟨by decide +kernel, by decide +kernel⟩, List.mem_of_getElem? (i := 737) (by decide +kernel), List.mem_of_getElem? (i := 918) (by decide +kernel), List.mem_of_getElem? (i := 919) (by decide +kernel)⟩
theorem lw_p50 : lw_okq (⟨"GraphLogModel", "namedBy", "(I)I"⟩, 31) := ⟨⟨by decide +kernel, by decide +kernel⟩, List.mem_of_getElem? (i := 737) (by decide +kernel), List.mem_of_getElem? (i := 922) (by decide +kernel), List.mem_of_getElem? (i := 923) (by decide +kernel)⟩
theorem lw_p51 : lw_okq (⟨"GraphLogModel", "isThere", "(I)Z"⟩, 31) := ⟨⟨by decide +kernel, by decide +kernel⟩, List.mem_of_getElem? (i := 737) (by decide +kernel), List.mem_of_getElem? (i := 930) (by decide +kernel), List.mem_of_getElem? (i := 931) (by decide +kernel)⟩
theorem lw_p52 : lw_okq (⟨"GraphLogModel", "reach", "(II)J"⟩, 31) := ⟨⟨by decide +kernel, by decide +kernel⟩, List.mem_of_getElem? (i := 737) (by decide +kernel), List.mem_of_getElem? (i := 934) (by decide +kernel), List.mem_of_getElem? (i := 935) (by decide +kernel)⟩
theorem lw_p53 : lw_okq (⟨"GraphLogModel", "edges", "(II)J"⟩, 31) := ⟨⟨by decide +kernel, by decide +kernel⟩, List.mem_of_getElem? (i := 737) (by decide +kernel), List.mem_of_getElem? (i := 938) (by decide +kernel), List.mem_of_getElem? (i := 939) (by decide +kernel)⟩
theorem lw_p54 : lw_okq (⟨"GraphLogModel", "namedMany", "()I"⟩, 31) := ⟨⟨by decide +kernel, by decide +kernel⟩, List.mem_of_getElem? (i := 737) (by decide +kernel), List.mem_of_getElem? (i := 946) (by decide +kernel), List.mem_of_getElem? (i := 947) (by decide +kernel)⟩
theorem lw_p55 : lw_okq (⟨"GraphLogModel", "isHead", "(I)Z"⟩, 31) := ⟨⟨by decide +kernel, by decide +kernel⟩, List.mem_of_getElem? (i := 737) (by decide +kernel), List.mem_of_getElem? (i := 962) (by decide +kernel), List.mem_of_getElem? (i := 963) (by decide +kernel)⟩
theorem lw_p56 : lw_okq (⟨"GraphLogModel", "isRight", "(II)Z"⟩, 31) := ⟨⟨by decide +kernel, by decide +kernel⟩, List.mem_of_getElem? (i := 737) (by decide +kernel), List.mem_of_getElem? (i := 967) (by decide +kernel), List.mem_of_getElem? (i := 968) (by decide +kernel)⟩
theorem lw_p57 : lw_okq (⟨"GraphLogModel", "thereMany", "()I"⟩, 31) := ⟨⟨by decide +kernel, by decide +kernel⟩, List.mem_of_getElem? (i := 737) (by decide +kernel), List.mem_of_getElem? (i := 974) (by decide +kernel), List.mem_of_getElem? (i := 975) (by decide +kernel)⟩
theorem lw_p58 : lw_okq (⟨"GraphLogModel", "keepBeside", "(Z)V"⟩, 31) := ⟨⟨by decide +kernel, by decide +kernel⟩, List.mem_of_getElem? (i := 737) (by decide +kernel), List.mem_of_getElem? (i := 990) (by decide +kernel), List.mem_of_getElem? (i := 991) (by decide +kernel)⟩
theorem lw_p59 : lw_okq (⟨"GraphLogModel", "isVersion", "(I)Z"⟩, 31) := ⟨⟨by decide +kernel, by decide +kernel⟩, List.mem_of_getElem? (i := 737) (by decide +kernel), List.mem_of_getElem? (i := 998) (by decide +kernel), List.mem_of_getElem? (i := 999) (by decide +kernel)⟩
def lw_privs_4 : List (MethodName × Nat) := [(⟨"GraphLogModel", "earlier", "(I)I"⟩, 31), (⟨"GraphLogModel", "leastFree", "(I)I"⟩, 31), (⟨"GraphLogModel", "namedBy", "(I)I"⟩, 31), (⟨"GraphLogModel", "isThere", "(I)Z"⟩, 31), (⟨"GraphLogModel", "reach", "(II)J"⟩, 31), (⟨"GraphLogModel", "edges", "(II)J"⟩, 31), (⟨"GraphLogModel", "namedMany", "()I"⟩, 31), (⟨"GraphLogModel", "isHead", "(I)Z"⟩, 31), (⟨"GraphLogModel", "isRight", "(II)Z"⟩, 31), (⟨"GraphLogModel", "thereMany", "()I"⟩, 31), (⟨"GraphLogModel", "keepBeside", "(Z)V"⟩, 31), (⟨"GraphLogModel", "isVersion", "(I)Z"⟩, 31)]
theorem lw_r4 : ∀ q ∈ lw_privs_4, lw_okq q := List.forall_mem_cons.mpr ⟨lw_p48, List.forall_mem_cons.mpr ⟨lw_p49, List.forall_mem_cons.mpr ⟨lw_p50, List.forall_mem_cons.mpr ⟨lw_p51, List.forall_mem_cons.mpr ⟨lw_p52, List.forall_mem_cons.mpr ⟨lw_p53, List.forall_mem_cons.mpr ⟨lw_p54, List.forall_mem_cons.mpr ⟨lw_p55, List.forall_mem_cons.mpr ⟨lw_p56, List.forall_mem_cons.mpr ⟨lw_p57, List.forall_mem_cons.mpr ⟨lw_p58, List.forall_mem_cons.mpr ⟨lw_p59, fun _ h => absurd h List.not_mem_nil⟩⟩⟩⟩⟩⟩⟩⟩⟩⟩⟩⟩
def lw_privs : List (MethodName × Nat) := lw_privs_1 ++ (lw_privs_2 ++ (lw_privs_3 ++ (lw_privs_4)))
def lw_tbl : List Cond := k2_sels lw_privs ++ tables_1
theorem lw_privs_ok : ∀ q ∈ lw_privs, lw_okq q := by
  show ∀ q ∈ lw_privs_1 ++ (lw_privs_2 ++ (lw_privs_3 ++ (lw_privs_4))), lw_okq q
  exact List.forall_mem_append.mpr ⟨lw_r1, List.forall_mem_append.mpr ⟨lw_r2, List.forall_mem_append.mpr ⟨lw_r3, lw_r4⟩⟩⟩
/-! ===== BEGIN words of one list among another's, by their places ===== -/
theorem goodIn_r {big : List Cond} (ws : List Cond) (ps : List Nat) (hp : ws = ps.filterMap (fun i => big[i]?)) (h : ws.all goodWord = true) : GoodIn big ws := by
  intro w hw
  have h1 := List.all_eq_true.mp h w hw
  rw [hp] at hw
  obtain ⟨i, -, hi⟩ := List.mem_filterMap.mp hw
  have hm : w ∈ big := by first | exact List.mem_of_getElem? hi | exact List.getElem?_mem hi
  exact ⟨hm, good_of_word h1⟩
theorem goodIn_app {big a b : List Cond} (ha : GoodIn big a) (hb : GoodIn big b) : GoodIn big (a ++ b) := fun w h => (List.mem_append.mp h).elim (ha w) (hb w)
theorem goodIn_ca {big a b : List Cond} {c : Cond} (ha : GoodIn big (c :: a)) (hb : GoodIn big b) : GoodIn big (c :: (a ++ b)) := fun w h => (List.mem_cons.mp h).elim (fun e => ha w (List.mem_cons.mpr (Or.inl e))) (fun h => (List.mem_append.mp h).elim (fun h => ha w (List.mem_cons.mpr (Or.inr h))) (hb w))
theorem goodIn_sub {big ws : List Cond} (hm : ∀ w ∈ ws, w ∈ big) (h : ws.all goodWord = true) : GoodIn big ws := fun w hw => ⟨hm w hw, good_of_word (List.all_eq_true.mp h w hw)⟩
/-! ===== END ===== -/

/-! ===== BEGIN exceptions that leave a method, and their catching by the caller (launches without stack traces) ===== -/
section VXA
/-! The laws vx_back, vx_callV, vx_callS, vx_callSW, vx_throw0, vx_throwS follow proofs of the library, with one case more: JvmDerived/Free/Laws.lean (Back.of_free), Shelf42/LK1.lean (callV, callS), Shelf/KitTraced.lean (throwNew0V, throwNewS). -/
/-- where a method has thrown q: the class by its name, the cell, what was written, the world -/
def vx_T (XC : String → State → State → Prop) (st : State) (q : Addr) (t : State) (mc ms : Nat) (free : Addr → Prop) : Prop :=
  ∃ (E : String) (ce : Cell) (L : List Loc), XC E st t ∧ t.heap[q]? = some ce ∧ ce.vm = .none ∧ st.vm.findClass E = some ce.cls ∧ st.WarmedH t.vm ∧ st.sameButNew ({ t with vm := st.vm } : State) L mc ms ∧ ∀ z ∈ L, free z.base
def vx_Q (Qc : Array Value → State → Outcome → State → Prop) (XC : String → State → State → Prop) (mc ms : Nat) (free : Addr → Prop) : Array Value → State → Outcome → State → Prop := fun a st o t =>
  (Qc a st o t ∧ ∃ L, FrameEnd st o t L mc ms ∧ ∀ q ∈ L, free q.base) ∨ ∃ q, o = .threw q ∧ vx_T XC st q t mc ms free
/-- a callee that returns or throws -/
def vx_Met (l : Launch) (y : MethodName) (ws : List Cond) (rm : Room) (Pc : Array Value → State → Prop) (Qc : Array Value → State → Outcome → State → Prop) (XC : String → State → State → Prop) (mc ms : Nat) (free : Addr → Prop) : Prop :=
  MetFree l y (headSpec ws rm) Pc (fun _ _ _ _ _ => True) (vx_Q Qc XC mc ms free)
def vx_Post (XC : String → State → State → Prop) (mc ms : Nat) (free : Addr → Prop) : Pt → Array Value → Addr → Pt → Prop := fun A a q B =>
  ∃ (g : JFrame) (mk : MethodId) (t : State) (L : List Loc) (E : String) (ce : Cell), B.U.heap = t.heap ∧ B.U.vm = t.vm ∧ XC E (A.U.calling g mk a) t ∧ t.heap[q]? = some ce ∧ ce.vm = .none ∧ A.U.vm.findClass E = some ce.cls ∧ B.locs = A.locs ++ L ∧ (∀ z ∈ L, free z.base) ∧ B.cells = A.cells + mc ∧ B.slots = A.slots + ms
def vx_Back (l : Launch) (R : Room) (p : Program) (e : Env) (below : List Frame) (s : State) (sargs : Array Value) (y : MethodName) (len W9 : Nat)
    (Pre : Pt → Array Value → Prop) (Post : Pt → Array Value → Option Value → Pt → Prop) (PostX : Pt → Array Value → Addr → Pt → Prop) : Prop :=
  ∀ (m : MethodId) (meth : Method) (c : Code) (A : Pt) (g : JFrame) (ig : Instr) (mk : MethodId) (a : Array Value),
    Stand p l e R s m sargs below meth c A.U A.locs A.cells A.slots → g.method = m → g.locals.size = c.maxLocals → decode c.code g.pc = .ok (ig, len) →
    2 * g.monitorRoom + (g.stack.map fun v => v.category).sum ≤ W9 → A.U.methodNamed? y = some mk → Pre A a →
    (∃ (v : Option Value) (B : Pt), Stand p l e R s m sargs below meth c B.U B.locs B.cells B.slots ∧ Post A a v B ∧
      Steps p.tables e below (doInvoke e (A.U.setTop g) [] mk a).1 (B.U.setTop { g with pc := g.pc + len, stack := v.toList ++ g.stack })) ∨
    (∃ (q : Addr) (B : Pt), Stand p l e R s m sargs below meth c B.U B.locs B.cells B.slots ∧ PostX A a q B ∧
      Steps p.tables e below (doInvoke e (A.U.setTop g) [] mk a).1 ((B.U.setTop g).pushFrame (.throwing q)))
section Payer
variable {l : Launch} {R : Room} {p : Program} {e : Env} {below : List Frame} {s : State} {sargs : Array Value} {y : MethodName} {len W9 : Nat}
theorem vx_back {ws : List Cond} {rm : Room} {Pc : Array Value → State → Prop} {Qc : Array Value → State → Outcome → State → Prop} {XC : String → State → State → Prop} {mc ms : Nat} {free : Addr → Prop} {bytes : ByteArray} {maxL : Nat} {ret : Option FieldType}
    (hM : vx_Met l y ws rm Pc Qc XC mc ms free) (hblind : FrameBlind Pc) (hrc : rm.cells = mc) (hrs : rm.slots = ms)
    (hframes : rm.frames + 1 ≤ R.frames) (hlocals : W9 + (maxL + 11) + rm.locals ≤ R.locals)
    (hws : ∀ w ∈ ws, ∀ a' U, s.WarmedH U.vm → w.before a' U = true) (hcode : Cond.code y bytes maxL ret ∈ ws) (hinit : ∀ a' U, s.WarmedH U.vm → (Cond.initialized y.cls).before a' U = true) :
    vx_Back l R p e below s sargs y len W9 (PreOf R mc ms Pc) (PostOf Qc mc ms free) (vx_Post XC mc ms free) := by
  intro m meth c A g ig mk a X hg hsize hdg hW hn hp
  have h1 : (headSpec ws rm).pre.before a A.U = true := atoms_intro fun w hw => hws w hw _ _ X.warmed
  have h2 : (Cond.code y bytes maxL ret).before a A.U = true := hws _ hcode _ _ X.warmed
  have h3 : (Cond.initialized y.cls).before a A.U = true := hinit _ _ X.warmed
  have h4 : A.cells + (headSpec ws rm).room.cells ≤ R.cells := by rw [show (headSpec ws rm).room.cells = mc from hrc]; exact hp.1
  have h5 : A.slots + (headSpec ws rm).room.slots ≤ R.slots := by rw [show (headSpec ws rm).room.slots = ms from hrs]; exact hp.2.1
  have hPc : Pc a (A.U.calling g mk a) := hblind _ _ _ _ hp.2.2
  obtain ⟨U, Ls, c0, s0⟩ := A
  dsimp only [Pt.U, Pt.locs, Pt.cells, Pt.slots] at h1 h2 h3 h4 h5 X hn hPc ⊢
  obtain ⟨methY, cY, hmY, hcY, -, hlY, -, -, -, -⟩ := Cond.code_spec hn h2
  obtain ⟨kY, hkY, -⟩ := className_of_methodNamed hn
  have hinitY : kY.init = .initialized := Cond.initialized_spec (findClass_of_methodNamed hn) hkY h3
  have h : At U g.method c below := by rw [hg]; exact X.here
  have hlocals9 : W9 + (maxL + 11) + (headSpec ws rm).room.locals ≤ R.locals := hlocals
  have happ : (headSpec ws rm).appliesLoose y e.platform (U.calling g mk a) = true :=
    Spec.appliesLoose_calling (g := g) h hdg hn hkY hinitY
      (X.room_calling (g := g) (R' := (headSpec ws rm).room) hsize hmY hcY hframes (by rw [hlY]; omega) h4 h5) h1
  obtain ⟨mid, hmid⟩ := h.above
  have hfr : (U.setTop g).frames = (.java g :: mid) ++ below := by rw [State.frames_setTop' g h.top, hmid]; rfl
  obtain ⟨o, s₂, hsteps, -, hend, hq⟩ := Steps.callFree hM p X.admits X.cas X.clock (acts := []) hfr happ hPc trivial
  have hq' : vx_Q Qc XC mc ms free a (U.calling g mk a) o s₂ := hq
  rw [State.frames_setTop' g h.top] at hend
  obtain ⟨g₀, hg0⟩ := Option.isSome_iff_exists.mp h.top
  obtain ⟨r, hr⟩ := State.topJava?_eq_some.mp hg0
  have hr' : (({ U with heap := s₂.heap, slotsUsed := s₂.slotsUsed } : State).setVm s₂.vm).frames = .java g₀ :: r := hr
  rcases hq' with ⟨hqc, L, hfe, hL⟩ | ⟨q, rfl, E, ce, L, hx, hce, hcv, hcl, hW₂, hsm, hL⟩
  · obtain ⟨⟨v, rfl⟩, hW₂, e2, q2, q3, q4, q5, q6⟩ := id hfe
    have e3 : s₂ = ({ (U.calling g mk a).setFrames s₂.frames with heap := s₂.heap, slotsUsed := s₂.slotsUsed } : State).setVm s₂.vm := by
      have : s₂ = ({ s₂ with vm := (U.calling g mk a).vm } : State).setVm s₂.vm := rfl
      rw [e2] at this
      exact this
    obtain ⟨c₂, i₂, len₂, hc₂, hd₂, hf₂⟩ := hend
    have hW' : U.WarmedH s₂.vm := hW₂
    have hcc : c₂ = c := by
      have h1 : s₂.code? g.method = U.code? g.method := by
        rw [State.code?_eq, State.code?_eq, hW'.alike.method?]
      exact Option.some.inj (hc₂.symm.trans (h1.trans h.code))
    subst hcc
    have hlen : len₂ = len := by rw [hdg] at hd₂; cases hd₂; rfl
    subst hlen
    have hs₂ : s₂ = (({ U with heap := s₂.heap, slotsUsed := s₂.slotsUsed } : State).setVm s₂.vm).setTop { g with pc := g.pc + len₂, stack := v.toList ++ g.stack } := by
      refine e3.trans ?_
      rw [hf₂, State.calling_eq h.top, State.setFrames_setFrames, State.setTop_of_frames _ hr', hr]
      rfl
    have hsame : U.sameButNew ({ U with heap := s₂.heap, slotsUsed := s₂.slotsUsed } : State) L mc ms := by
      refine ⟨?_, q2, q3, q4, q5, q6⟩
      obtain ⟨t, ht, -⟩ := State.frames_cons hr
      show ({ U with heap := s₂.heap, slotsUsed := s₂.slotsUsed } : State) = { U.setFrames U.frames with heap := s₂.heap, slotsUsed := s₂.slotsUsed }
      rw [State.setFrames_self ht]
    subst hg
    refine Or.inl ⟨v, ⟨(({ U with heap := s₂.heap, slotsUsed := s₂.slotsUsed } : State).setVm s₂.vm), Ls ++ L, c0 + mc, s0 + ms⟩,
      ⟨X.admits, X.cas, X.clock, X.frames, X.room, X.hears, X.method, X.code, (X.here.setHeapUsed s₂.heap s₂.slotsUsed).setVm hW'.alike, X.tail, State.WarmedH.trans X.warmed hW', X.limits, X.bytes, X.same.trans (hsame.setVm s.vm)⟩,
      ⟨g, mk, s₂, L, rfl, rfl, hqc, rfl, hL, rfl, rfl⟩, ?_⟩
    show Steps p.tables e below _ ((({ U with heap := s₂.heap, slotsUsed := s₂.slotsUsed } : State).setVm s₂.vm).setTop { g with pc := g.pc + len₂, stack := v.toList ++ g.stack })
    rw [← hs₂]
    exact hsteps
  · obtain ⟨e2, q2, q3, q4, q5, q6⟩ := id hsm
    have e3 : s₂ = ({ (U.calling g mk a).setFrames s₂.frames with heap := s₂.heap, slotsUsed := s₂.slotsUsed } : State).setVm s₂.vm := by
      have : s₂ = ({ s₂ with vm := (U.calling g mk a).vm } : State).setVm s₂.vm := rfl
      rw [e2] at this
      exact this
    have hf₂ : s₂.frames = .throwing q :: .java g :: U.frames.tail := hend
    have hW' : U.WarmedH s₂.vm := hW₂
    have hs₂ : s₂ = ((({ U with heap := s₂.heap, slotsUsed := s₂.slotsUsed } : State).setVm s₂.vm).setTop g).pushFrame (.throwing q) := by
      refine e3.trans ?_
      rw [hf₂, State.calling_eq h.top, State.setFrames_setFrames, State.pushFrame, State.frames_setTop _ hr', State.setTop_of_frames _ hr', State.setFrames_setFrames, hr]
      rfl
    have hsame : U.sameButNew ({ U with heap := s₂.heap, slotsUsed := s₂.slotsUsed } : State) L mc ms := by
      refine ⟨?_, q2, q3, q4, q5, q6⟩
      obtain ⟨t, ht, -⟩ := State.frames_cons hr
      show ({ U with heap := s₂.heap, slotsUsed := s₂.slotsUsed } : State) = { U.setFrames U.frames with heap := s₂.heap, slotsUsed := s₂.slotsUsed }
      rw [State.setFrames_self ht]
    subst hg
    refine Or.inr ⟨q, ⟨(({ U with heap := s₂.heap, slotsUsed := s₂.slotsUsed } : State).setVm s₂.vm), Ls ++ L, c0 + mc, s0 + ms⟩,
      ⟨X.admits, X.cas, X.clock, X.frames, X.room, X.hears, X.method, X.code, (X.here.setHeapUsed s₂.heap s₂.slotsUsed).setVm hW'.alike, X.tail, State.WarmedH.trans X.warmed hW', X.limits, X.bytes, X.same.trans (hsame.setVm s.vm)⟩,
      ⟨g, mk, s₂, L, E, ce, rfl, rfl, hx, hce, hcv, hcl, rfl, hL, rfl, rfl⟩, ?_⟩
    show Steps p.tables e below _ (((({ U with heap := s₂.heap, slotsUsed := s₂.slotsUsed } : State).setVm s₂.vm).setTop g).pushFrame (.throwing q))
    rw [← hs₂]
    exact hsteps
end Payer
section Calls
variable {p : Program} {l : Launch} {e : Env} {R : Room} {s : State} {m : MethodId} {args : Array Value} {below : List Frame} {meth : Method} {c : Code} {T : State} {locs : List Loc} {cells slots : Nat}
theorem vx_callV (X : Stand p l e R s m args below meth c T locs cells slots) (hexec : p.tables.exec = Jvm.exec) {own C : String} {index : Nat} {y : MethodName} {bytes : ByteArray} {maxL : Nat} {ret : Option FieldType}
    (hown : s.vm.findClass own = some m.cls) (hlink : (Cond.methodLink own index y).before args s = true) (hinst : (Cond.instanceMethod y).before args s = true) (hsel : (Cond.selects C y y).before args s = true)
    (hcode : (Cond.code y bytes maxL ret).before args s = true) (hy : y.cls ≠ "java/lang/invoke/MethodHandle" ∧ y.cls ≠ "java/lang/invoke/VarHandle")
    {W9 : Nat} {Pre : Pt → Array Value → Prop} {Post : Pt → Array Value → Option Value → Pt → Prop} {PostX : Pt → Array Value → Addr → Pt → Prop} (hK : vx_Back l R p e below s args y 3 W9 Pre Post PostX)
    {b : Addr} {cellB : Cell} (hcell : T.heap[b]? = some cellB) (hobj : cellB.vm.isStatics = false) (hcls : s.vm.findClass C = some cellB.cls)
    {g : JFrame} (hg : g.method = m) (hsize : g.locals.size = c.maxLocals) {argsL rest : List Value} (hlen : ∀ sig, parseMethodDescriptor y.desc = some sig → argsL.length = sig.parameters.length)
    (hstack : g.stack = argsL.reverse ++ .ref b :: rest) (hW : 2 * g.monitorRoom + (rest.map fun v => v.category).sum ≤ W9) (hdg : decode c.code g.pc = .ok (.invokevirtual index, 3))
    (hpre : ∀ vm₁, s.WarmedH vm₁ → Pre ⟨T.setVm vm₁, locs, cells, slots⟩ (Value.ref b :: argsL).toArray) :
    (∃ (v : Option Value) (vm₁ : Vm) (B : Pt), s.WarmedH vm₁ ∧ Stand p l e R s m args below meth c B.U B.locs B.cells B.slots ∧ Post ⟨T.setVm vm₁, locs, cells, slots⟩ (Value.ref b :: argsL).toArray v B ∧
      ∀ target, Steps p.tables e below (B.U.setTop { g with pc := g.pc + 3, stack := v.toList ++ rest }) target → Steps p.tables e below (T.setTop g) target) ∨
    (∃ (q : Addr) (vm₁ : Vm) (B : Pt), s.WarmedH vm₁ ∧ Stand p l e R s m args below meth c B.U B.locs B.cells B.slots ∧ PostX ⟨T.setVm vm₁, locs, cells, slots⟩ (Value.ref b :: argsL).toArray q B ∧
      Steps p.tables e below (T.setTop g) ((B.U.setTop { g with stack := rest }).pushFrame (.throwing q))) := by
  obtain ⟨mk, methM, hnamed, hmethM, hstM, habM⟩ := Cond.instanceMethod_spec hinst
  obtain ⟨methM', cM, hmethM', -, -, -, -, -, -, hsigM⟩ := Cond.code_spec hnamed hcode
  cases hmethM.symm.trans hmethM'
  obtain ⟨c2, r2, m2, q1, q2, q3, q4, kP, hkP, hkPi⟩ := Cond.selects_spec hsel
  cases hcls.symm.trans q1
  cases (State.methodFound?_of_named hnamed hy).symm.trans q2
  cases hnamed.symm.trans q3
  have hselP : selectMethod e.platform s.vm cellB.cls mk = .method mk := by rw [Launch.admits_selectMethod X.admits]; exact q4
  obtain ⟨vm₁, X₁, hstep₁⟩ := X.invokevirtual hexec hown hlink hnamed hmethM hstM hkP hkPi hy (a := b) (cell := cellB) hcell
    (fun z h => by rw [h] at hobj; cases hobj) hselP hmethM habM hkP hkPi (g := g) hg (argsL := argsL) (rest := rest) (hlen _ hsigM) hstack hdg
  rcases hK m meth c ⟨T.setVm vm₁, locs, cells, slots⟩ { g with stack := rest } (.invokevirtual index) mk (Value.ref b :: argsL).toArray X₁ hg hsize hdg hW (X₁.named hnamed) (hpre vm₁ X₁.warmed) with ⟨v, B, X', hpost, hsteps⟩ | ⟨q, B, X', hpost, hsteps⟩
  · exact Or.inl ⟨v, vm₁, B, X₁.warmed, X', hpost, fun target h => hstep₁ _ fun acts => by rw [doInvoke_state]; exact hsteps.trans h⟩
  · exact Or.inr ⟨q, vm₁, B, X₁.warmed, X', hpost, hstep₁ _ fun acts => by rw [doInvoke_state]; exact hsteps⟩
theorem vx_callS (X : Stand p l e R s m args below meth c T locs cells slots) (hexec : p.tables.exec = Jvm.exec) {own : String} {index : Nat} {y : MethodName} {bytes : ByteArray} {maxL : Nat} {ret : Option FieldType}
    (hown : s.vm.findClass own = some m.cls) (hlink : (Cond.methodLink own index y).before args s = true) (hstat : (Cond.static y).before args s = true) (hinit : (Cond.initialized y.cls).before args s = true)
    (hcode : (Cond.code y bytes maxL ret).before args s = true) (hy : y.cls ≠ "java/lang/invoke/MethodHandle" ∧ y.cls ≠ "java/lang/invoke/VarHandle")
    {W9 : Nat} {Pre : Pt → Array Value → Prop} {Post : Pt → Array Value → Option Value → Pt → Prop} {PostX : Pt → Array Value → Addr → Pt → Prop} (hK : vx_Back l R p e below s args y 3 W9 Pre Post PostX)
    {g : JFrame} (hg : g.method = m) (hsize : g.locals.size = c.maxLocals) {argsL rest : List Value} (hlen : ∀ sig, parseMethodDescriptor y.desc = some sig → argsL.length = sig.parameters.length)
    (hstack : g.stack = argsL.reverse ++ rest) (hW : 2 * g.monitorRoom + (rest.map fun v => v.category).sum ≤ W9) (hdg : decode c.code g.pc = .ok (.invokestatic index, 3))
    (hpre : ∀ vm₁, s.WarmedH vm₁ → Pre ⟨T.setVm vm₁, locs, cells, slots⟩ argsL.toArray) :
    (∃ (v : Option Value) (vm₁ : Vm) (B : Pt), s.WarmedH vm₁ ∧ Stand p l e R s m args below meth c B.U B.locs B.cells B.slots ∧ Post ⟨T.setVm vm₁, locs, cells, slots⟩ argsL.toArray v B ∧
      ∀ target, Steps p.tables e below (B.U.setTop { g with pc := g.pc + 3, stack := v.toList ++ rest }) target → Steps p.tables e below (T.setTop g) target) ∨
    (∃ (q : Addr) (vm₁ : Vm) (B : Pt), s.WarmedH vm₁ ∧ Stand p l e R s m args below meth c B.U B.locs B.cells B.slots ∧ PostX ⟨T.setVm vm₁, locs, cells, slots⟩ argsL.toArray q B ∧
      Steps p.tables e below (T.setTop g) ((B.U.setTop { g with stack := rest }).pushFrame (.throwing q))) := by
  obtain ⟨mk, hnamed⟩ := Cond.code_named hcode
  obtain ⟨methM, cM, hmethM, -, -, -, -, -, -, hsigM⟩ := Cond.code_spec hnamed hcode
  have hstatic : methM.isStatic = true := Cond.static_spec hnamed hmethM hstat
  obtain ⟨kP, hkP, -⟩ := className_of_methodNamed hnamed
  have hinitP : kP.init = .initialized := Cond.initialized_spec (findClass_of_methodNamed hnamed) hkP hinit
  obtain ⟨vm₁, X₁, hstep₁⟩ := X.invokestatic hexec hown hlink hnamed hmethM hstatic hkP hinitP hy (g := g) hg (argsL := argsL) (rest := rest) (hlen _ hsigM) hstack hdg
  rcases hK m meth c ⟨T.setVm vm₁, locs, cells, slots⟩ { g with stack := rest } (.invokestatic index) mk argsL.toArray X₁ hg hsize hdg hW (X₁.named hnamed) (hpre vm₁ X₁.warmed) with ⟨v, B, X', hpost, hsteps⟩ | ⟨q, B, X', hpost, hsteps⟩
  · exact Or.inl ⟨v, vm₁, B, X₁.warmed, X', hpost, fun target h => hstep₁ _ fun acts => by rw [doInvoke_state]; exact hsteps.trans h⟩
  · exact Or.inr ⟨q, vm₁, B, X₁.warmed, X', hpost, hstep₁ _ fun acts => by rw [doInvoke_state]; exact hsteps⟩
end Calls
theorem vx_cls {s : State} {T : State} {vm₁ : Vm} {E : String} {k : ClassId} (hW : s.WarmedH vm₁) (h : (T.setVm vm₁).vm.findClass E = some k) : s.vm.findClass E = some k := by
  have h1 : vm₁.findClass E = some k := h
  rw [hW.alike.findClass] at h1
  exact h1
/-- the method's frame g, with q thrown over it -/
def vx_W (p : Program) (l : Launch) (e : Env) (R : Room) (s : State) (m : MethodId) (args : Array Value) (below : List Frame) (meth : Method) (c : Code) (H : Heap) (locs : List Loc) (cells slots : Nat) (Q : State → Prop) (g : JFrame) (q : Addr) : Prop :=
  ∀ T : State, T.heap = H → Stand p l e R s m args below meth c T locs cells slots → ∃ t, Steps p.tables e below ((T.setTop g).pushFrame (.throwing q)) t ∧ Q t
def vx_Run (p : Program) (l : Launch) (e : Env) (R : Room) (s : State) (m : MethodId) (args : Array Value) (below : List Frame) (meth : Method) (c : Code) (H : Heap) (locs : List Loc) (cells slots mc ms : Nat) (g : JFrame) (rest : List Value) (Qa : State → Outcome → State → Prop) (XC : String → State → State → Prop) (free : Addr → Prop) : Prop :=
  ∀ T : State, T.heap = H → Stand p l e R s m args below meth c T locs cells slots →
    (∃ (v : Option Value) (st₀ t T' : State) (L : List Loc), st₀.heap = H ∧ Stand p l e R s m args below meth c T' (locs ++ L) (cells + mc) (slots + ms) ∧ (∀ q ∈ L, free q.base) ∧ T'.heap = t.heap ∧ T'.vm = t.vm ∧ Qa st₀ (.returned v) t ∧
      Goes p e below T g T' { g with pc := g.pc + 3, stack := v.toList ++ rest }) ∨
    (∃ (q : Addr) (st₀ t T' : State) (L : List Loc) (E : String) (ce : Cell), st₀.heap = H ∧ Stand p l e R s m args below meth c T' (locs ++ L) (cells + mc) (slots + ms) ∧ (∀ z ∈ L, free z.base) ∧ T'.heap = t.heap ∧ T'.vm = t.vm ∧ XC E st₀ t ∧ t.heap[q]? = some ce ∧ ce.vm = .none ∧ s.vm.findClass E = some ce.cls ∧
      Steps p.tables e below (T.setTop g) ((T'.setTop { g with stack := rest }).pushFrame (.throwing q)))
def vx_X {S : Type} (px : S → Prop) (B : String → S → State → Prop) (A : Nat → Prop) : String → State → State → Prop := fun E st t => ∃ u : S, px u ∧ B E u t ∧ va_F A st t
section Runs
variable {p : Program} {l : Launch} {e : Env} {R : Room} {s : State} {m : MethodId} {args : Array Value} {below : List Frame} {meth : Method} {c : Code} {H : Heap} {locs : List Loc} {cells slots : Nat}
variable {y : MethodName} {bytes cc : ByteArray} {maxL nL mc ms n index : Nat} {ret : Option FieldType} {ws : List Cond} {rm : Room} {Pc : Array Value → State → Prop} {Qc : Array Value → State → Outcome → State → Prop} {XC : String → State → State → Prop} {free : Addr → Prop} {Ts : List Cond} {own C : String} {b : Addr} {As rest : List Value} {g : JFrame}
theorem vx_callBack (cb : CallB R s args own index y bytes maxL ret ws rm mc ms n) (hM : vx_Met l y ws rm Pc Qc XC mc ms free) (hbl : FrameBlind Pc) : vx_Back l R p e below s args y 3 8 (PreOf R mc ms Pc) (PostOf Qc mc ms free) (vx_Post XC mc ms free) := by
  obtain ⟨hrc, hrs, hfr, hlo, hws, hcw, -, hini, -⟩ := cb
  exact vx_back (bytes := bytes) (maxL := maxL) (ret := ret) hM hbl hrc hrs hfr hlo hws hcw (fun a' U hW => word_at hW (Or.inl (by first | rfl | simp [Cond.onTables, Cond.keeps, Cond.steady])) hini)
theorem vx_runV (S : CallFix p m c cc nL s args Ts own) (hM : vx_Met l y ws rm Pc Qc XC mc ms free) (cw : CallW R s args own C index y bytes maxL ret ws rm mc ms n) (hp : PreV s H C b Pc As)
    (hg : g.method = m) (hn : As.length = n) (hsize : g.locals.size = nL) (hstack : g.stack = As.reverse ++ .ref b :: rest) (hW : 2 * g.monitorRoom + (rest.map fun v => v.category).sum ≤ 8) (hdg : decode cc g.pc = .ok (.invokevirtual index, 3)) (hf : cells + mc ≤ R.cells ∧ slots + ms ≤ R.slots) :
    vx_Run p l e R s m args below meth c H locs cells slots mc ms g rest (Qc (Value.ref b :: As).toArray) XC free := by
  have hK : vx_Back l R p e below s args y 3 8 (PreOf R mc ms Pc) (PostOf Qc mc ms free) (vx_Post XC mc ms free) := vx_callBack cw.1 hM hp.1
  obtain ⟨⟨-, -, -, -, -, -, hcode, -, hy, hlen, hl⟩, hin, hse⟩ := cw
  obtain ⟨hx, hb, hml, ho, -⟩ := S
  obtain ⟨-, ⟨cellB, hcB, hoB, hclB⟩, hPc⟩ := hp
  intro T hT X
  rcases vx_callV X hx (C := C) (bytes := bytes) (maxL := maxL) (ret := ret) ho hl hin hse hcode hy hK (by rw [hT]; exact hcB) hoB hclB hg (hsize.trans hml.symm) (argsL := As) (rest := rest) (fun sig h => hn.trans (hlen sig h)) hstack hW (by rw [hb]; exact hdg)
    (fun vm₁ hW₁ => ⟨hf.1, hf.2, hPc (T.setVm vm₁) hT hW₁⟩) with ⟨v, vm₁, ⟨U', l2, c2, s2⟩, hW₁, X', ⟨g', mk, t, L, e1, e2, hq, h1, hL, h2, h3⟩, st⟩ | ⟨q, vm₁, ⟨U', l2, c2, s2⟩, hW₁, X', ⟨g', mk, t, L, E, ce, e1, e2, hq, hce, hcv, hcl, h1, hL, h2, h3⟩, st⟩
  · dsimp only [Pt.U, Pt.locs, Pt.cells, Pt.slots] at X' e1 e2 h1 h2 h3 st
    subst h1; subst h2; subst h3
    exact Or.inl ⟨v, (T.setVm vm₁).calling g' mk (Value.ref b :: As).toArray, t, U', L, hT, X', hL, e1, e2, hq, st⟩
  · dsimp only [Pt.U, Pt.locs, Pt.cells, Pt.slots] at X' e1 e2 h1 h2 h3 st hcl
    subst h1; subst h2; subst h3
    exact Or.inr ⟨q, (T.setVm vm₁).calling g' mk (Value.ref b :: As).toArray, t, U', L, E, ce, hT, X', hL, e1, e2, hq, hce, hcv, vx_cls hW₁ hcl, st⟩
theorem vx_runS (S : CallFix p m c cc nL s args Ts own) (hM : vx_Met l y ws rm Pc Qc XC mc ms free) (cw : CallB R s args own index y bytes maxL ret ws rm mc ms n ∧ (Cond.static y).before args s = true) (hp : PreS s H Pc As)
    (hg : g.method = m) (hn : As.length = n) (hsize : g.locals.size = nL) (hstack : g.stack = As.reverse ++ rest) (hW : 2 * g.monitorRoom + (rest.map fun v => v.category).sum ≤ 8) (hdg : decode cc g.pc = .ok (.invokestatic index, 3)) (hf : cells + mc ≤ R.cells ∧ slots + ms ≤ R.slots) :
    vx_Run p l e R s m args below meth c H locs cells slots mc ms g rest (Qc As.toArray) XC free := by
  have hK : vx_Back l R p e below s args y 3 8 (PreOf R mc ms Pc) (PostOf Qc mc ms free) (vx_Post XC mc ms free) := vx_callBack cw.1 hM hp.1
  obtain ⟨⟨-, -, -, -, -, -, hcode, hini, hy, hlen, hl⟩, hstt⟩ := cw
  obtain ⟨hx, hb, hml, ho, -⟩ := S
  intro T hT X
  rcases vx_callS X hx (bytes := bytes) (maxL := maxL) (ret := ret) ho hl hstt hini hcode hy hK hg (hsize.trans hml.symm) (argsL := As) (rest := rest) (fun sig h => hn.trans (hlen sig h)) hstack hW (by rw [hb]; exact hdg)
    (fun vm₁ hW₁ => ⟨hf.1, hf.2, hp.2 (T.setVm vm₁) hT hW₁⟩) with ⟨v, vm₁, ⟨U', l2, c2, s2⟩, hW₁, X', ⟨g', mk, t, L, e1, e2, hq, h1, hL, h2, h3⟩, st⟩ | ⟨q, vm₁, ⟨U', l2, c2, s2⟩, hW₁, X', ⟨g', mk, t, L, E, ce, e1, e2, hq, hce, hcv, hcl, h1, hL, h2, h3⟩, st⟩
  · dsimp only [Pt.U, Pt.locs, Pt.cells, Pt.slots] at X' e1 e2 h1 h2 h3 st
    subst h1; subst h2; subst h3
    exact Or.inl ⟨v, (T.setVm vm₁).calling g' mk As.toArray, t, U', L, hT, X', hL, e1, e2, hq, st⟩
  · dsimp only [Pt.U, Pt.locs, Pt.cells, Pt.slots] at X' e1 e2 h1 h2 h3 st hcl
    subst h1; subst h2; subst h3
    exact Or.inr ⟨q, (T.setVm vm₁).calling g' mk As.toArray, t, U', L, E, ce, hT, X', hL, e1, e2, hq, hce, hcv, vx_cls hW₁ hcl, st⟩
end Runs
section Rows
variable {p : Program} {l : Launch} {e : Env} {R : Room} {s : State} {m : MethodId} {args : Array Value} {below : List Frame} {meth : Method} {c : Code} {H : Heap} {locs : List Loc} {cells slots : Nat} {Q : State → Prop}
variable {mc ms : Nat} {free : Addr → Prop} {A0 A1 : Nat → Prop} {H0 : Heap} {a : Array Value} {pc : Nat} {ls : Array Slot} {st0 rest : List Value}
theorem vx_keep {st₀ t T' : State} {L : List Loc} (h0 : st₀.heap = H) (e1 : T'.heap = t.heap) (hS : va_S A0 H0 H locs) (hA : ∀ q, q < H.size → A1 q → A0 q) (hf : ∀ q, free q → A0 q) (hL : ∀ q ∈ L, free q.base) (hF : va_F A1 st₀ t) :
    H.size ≤ T'.heap.size ∧ (∀ q : Nat, q < H.size → ¬ A1 q → T'.heap[q]? = H[q]?) ∧ va_S A0 H0 T'.heap (locs ++ L) := by
  obtain ⟨hz, hk⟩ := hF
  rw [h0] at hz hk
  exact ⟨by rw [e1]; exact hz, fun q h1 h2 => by rw [e1]; exact hk q h1 h2,
    ⟨Nat.le_trans hS.1 (by rw [e1]; exact hz), fun q h1 h2 => by rw [e1, hk q (Nat.lt_of_lt_of_le h1 hS.1) (fun z => h2 (hA q (Nat.lt_of_lt_of_le h1 hS.1) z))]; exact hS.2.1 q h1 h2, fun q hq => by
      rcases List.mem_append.mp hq with h | h
      · exact hS.2.2 q h
      · exact hf _ (hL q h)⟩⟩
theorem vx_calli {S SX : Type} {post : Int32 → S → Prop} {px : SX → Prop} {B : S → State → Prop} {BX : String → SX → State → Prop} {AX : Nat → Prop} (hr : vx_Run p l e R s m args below meth c H locs cells slots mc ms (F0 m pc ls st0) rest (va_Qi post B A1 a) (vx_X px BX AX) free) (hS : va_S A0 H0 H locs) (hA : ∀ q, q < H.size → A1 q → A0 q) (hf : ∀ q, free q → A0 q) (hAX : ∀ q, q < H.size → AX q → A0 q)
    (kx : ∀ (E : String) (ce : Cell) (q9 : Addr) (u : SX) (t : State) (H1 : Heap) (locs1 : List Loc), t.heap = H1 → s.vm.Alike t.vm → px u → BX E u t → H.size ≤ H1.size → (∀ q : Nat, q < H.size → ¬ AX q → H1[q]? = H[q]?) → va_S A0 H0 H1 locs1 → H1[q9]? = some ce → ce.vm = .none → s.vm.findClass E = some ce.cls → vx_W p l e R s m args below meth c H1 locs1 (cells + mc) (slots + ms) Q (F0 m pc ls rest) q9)
    (kk : ∀ (r : Int32) (u : S) (t : State) (H1 : Heap) (locs1 : List Loc), t.heap = H1 → s.vm.Alike t.vm → post r u → B u t → H.size ≤ H1.size → (∀ q : Nat, q < H.size → ¬ A1 q → H1[q]? = H[q]?) → va_S A0 H0 H1 locs1 → W p l e R s m args below meth c H1 locs1 (cells + mc) (slots + ms) Q (F0 m (pc + 3) ls (.int r :: rest))) : W p l e R s m args below meth c H locs cells slots Q (F0 m pc ls st0) := by
  intro T hT X
  rcases hr T hT X with ⟨v, st₀, t, T', L, h0, X', hL, e1, e2, ⟨⟨r, u, hv, hp, hb⟩, hF⟩, st⟩ | ⟨q, st₀, t, T', L, E, ce, h0, X', hL, e1, e2, ⟨u, hp, hb, hF⟩, hce, hcv, hcl, st⟩
  · cases hv
    obtain ⟨k1, k2, k3⟩ := vx_keep h0 e1 hS hA hf hL hF
    obtain ⟨t2, a1, b1⟩ := kk r u t T'.heap (locs ++ L) e1.symm (by rw [← e2]; exact X'.warmed.alike) hp hb k1 k2 k3 T' rfl X'
    exact ⟨t2, st t2 a1, b1⟩
  · obtain ⟨k1, k2, k3⟩ := vx_keep h0 e1 hS hAX hf hL hF
    obtain ⟨t2, a1, b1⟩ := kx E ce q u t T'.heap (locs ++ L) e1.symm (by rw [← e2]; exact X'.warmed.alike) hp hb k1 k2 k3 (by rw [e1]; exact hce) hcv hcl T' rfl X'
    exact ⟨t2, st.trans a1, b1⟩
theorem vx_calll {S SX : Type} {post : Int64 → S → Prop} {px : SX → Prop} {B : S → State → Prop} {BX : String → SX → State → Prop} {AX : Nat → Prop} (hr : vx_Run p l e R s m args below meth c H locs cells slots mc ms (F0 m pc ls st0) rest (va_Ql post B A1 a) (vx_X px BX AX) free) (hS : va_S A0 H0 H locs) (hA : ∀ q, q < H.size → A1 q → A0 q) (hf : ∀ q, free q → A0 q) (hAX : ∀ q, q < H.size → AX q → A0 q)
    (kx : ∀ (E : String) (ce : Cell) (q9 : Addr) (u : SX) (t : State) (H1 : Heap) (locs1 : List Loc), t.heap = H1 → s.vm.Alike t.vm → px u → BX E u t → H.size ≤ H1.size → (∀ q : Nat, q < H.size → ¬ AX q → H1[q]? = H[q]?) → va_S A0 H0 H1 locs1 → H1[q9]? = some ce → ce.vm = .none → s.vm.findClass E = some ce.cls → vx_W p l e R s m args below meth c H1 locs1 (cells + mc) (slots + ms) Q (F0 m pc ls rest) q9)
    (kk : ∀ (r : Int64) (u : S) (t : State) (H1 : Heap) (locs1 : List Loc), t.heap = H1 → s.vm.Alike t.vm → post r u → B u t → H.size ≤ H1.size → (∀ q : Nat, q < H.size → ¬ A1 q → H1[q]? = H[q]?) → va_S A0 H0 H1 locs1 → W p l e R s m args below meth c H1 locs1 (cells + mc) (slots + ms) Q (F0 m (pc + 3) ls (.long r :: rest))) : W p l e R s m args below meth c H locs cells slots Q (F0 m pc ls st0) := by
  intro T hT X
  rcases hr T hT X with ⟨v, st₀, t, T', L, h0, X', hL, e1, e2, ⟨⟨r, u, hv, hp, hb⟩, hF⟩, st⟩ | ⟨q, st₀, t, T', L, E, ce, h0, X', hL, e1, e2, ⟨u, hp, hb, hF⟩, hce, hcv, hcl, st⟩
  · cases hv
    obtain ⟨k1, k2, k3⟩ := vx_keep h0 e1 hS hA hf hL hF
    obtain ⟨t2, a1, b1⟩ := kk r u t T'.heap (locs ++ L) e1.symm (by rw [← e2]; exact X'.warmed.alike) hp hb k1 k2 k3 T' rfl X'
    exact ⟨t2, st t2 a1, b1⟩
  · obtain ⟨k1, k2, k3⟩ := vx_keep h0 e1 hS hAX hf hL hF
    obtain ⟨t2, a1, b1⟩ := kx E ce q u t T'.heap (locs ++ L) e1.symm (by rw [← e2]; exact X'.warmed.alike) hp hb k1 k2 k3 (by rw [e1]; exact hce) hcv hcl T' rfl X'
    exact ⟨t2, st.trans a1, b1⟩
theorem vx_callf {S SX : Type} {post : UInt32 → S → Prop} {px : SX → Prop} {B : S → State → Prop} {BX : String → SX → State → Prop} {AX : Nat → Prop} (hr : vx_Run p l e R s m args below meth c H locs cells slots mc ms (F0 m pc ls st0) rest (va_Qf post B A1 a) (vx_X px BX AX) free) (hS : va_S A0 H0 H locs) (hA : ∀ q, q < H.size → A1 q → A0 q) (hf : ∀ q, free q → A0 q) (hAX : ∀ q, q < H.size → AX q → A0 q)
    (kx : ∀ (E : String) (ce : Cell) (q9 : Addr) (u : SX) (t : State) (H1 : Heap) (locs1 : List Loc), t.heap = H1 → s.vm.Alike t.vm → px u → BX E u t → H.size ≤ H1.size → (∀ q : Nat, q < H.size → ¬ AX q → H1[q]? = H[q]?) → va_S A0 H0 H1 locs1 → H1[q9]? = some ce → ce.vm = .none → s.vm.findClass E = some ce.cls → vx_W p l e R s m args below meth c H1 locs1 (cells + mc) (slots + ms) Q (F0 m pc ls rest) q9)
    (kk : ∀ (r : UInt32) (u : S) (t : State) (H1 : Heap) (locs1 : List Loc), t.heap = H1 → s.vm.Alike t.vm → post r u → B u t → H.size ≤ H1.size → (∀ q : Nat, q < H.size → ¬ A1 q → H1[q]? = H[q]?) → va_S A0 H0 H1 locs1 → W p l e R s m args below meth c H1 locs1 (cells + mc) (slots + ms) Q (F0 m (pc + 3) ls (.float r :: rest))) : W p l e R s m args below meth c H locs cells slots Q (F0 m pc ls st0) := by
  intro T hT X
  rcases hr T hT X with ⟨v, st₀, t, T', L, h0, X', hL, e1, e2, ⟨⟨r, u, hv, hp, hb⟩, hF⟩, st⟩ | ⟨q, st₀, t, T', L, E, ce, h0, X', hL, e1, e2, ⟨u, hp, hb, hF⟩, hce, hcv, hcl, st⟩
  · cases hv
    obtain ⟨k1, k2, k3⟩ := vx_keep h0 e1 hS hA hf hL hF
    obtain ⟨t2, a1, b1⟩ := kk r u t T'.heap (locs ++ L) e1.symm (by rw [← e2]; exact X'.warmed.alike) hp hb k1 k2 k3 T' rfl X'
    exact ⟨t2, st t2 a1, b1⟩
  · obtain ⟨k1, k2, k3⟩ := vx_keep h0 e1 hS hAX hf hL hF
    obtain ⟨t2, a1, b1⟩ := kx E ce q u t T'.heap (locs ++ L) e1.symm (by rw [← e2]; exact X'.warmed.alike) hp hb k1 k2 k3 (by rw [e1]; exact hce) hcv hcl T' rfl X'
    exact ⟨t2, st.trans a1, b1⟩
theorem vx_calld {S SX : Type} {post : UInt64 → S → Prop} {px : SX → Prop} {B : S → State → Prop} {BX : String → SX → State → Prop} {AX : Nat → Prop} (hr : vx_Run p l e R s m args below meth c H locs cells slots mc ms (F0 m pc ls st0) rest (va_Qd post B A1 a) (vx_X px BX AX) free) (hS : va_S A0 H0 H locs) (hA : ∀ q, q < H.size → A1 q → A0 q) (hf : ∀ q, free q → A0 q) (hAX : ∀ q, q < H.size → AX q → A0 q)
    (kx : ∀ (E : String) (ce : Cell) (q9 : Addr) (u : SX) (t : State) (H1 : Heap) (locs1 : List Loc), t.heap = H1 → s.vm.Alike t.vm → px u → BX E u t → H.size ≤ H1.size → (∀ q : Nat, q < H.size → ¬ AX q → H1[q]? = H[q]?) → va_S A0 H0 H1 locs1 → H1[q9]? = some ce → ce.vm = .none → s.vm.findClass E = some ce.cls → vx_W p l e R s m args below meth c H1 locs1 (cells + mc) (slots + ms) Q (F0 m pc ls rest) q9)
    (kk : ∀ (r : UInt64) (u : S) (t : State) (H1 : Heap) (locs1 : List Loc), t.heap = H1 → s.vm.Alike t.vm → post r u → B u t → H.size ≤ H1.size → (∀ q : Nat, q < H.size → ¬ A1 q → H1[q]? = H[q]?) → va_S A0 H0 H1 locs1 → W p l e R s m args below meth c H1 locs1 (cells + mc) (slots + ms) Q (F0 m (pc + 3) ls (.double r :: rest))) : W p l e R s m args below meth c H locs cells slots Q (F0 m pc ls st0) := by
  intro T hT X
  rcases hr T hT X with ⟨v, st₀, t, T', L, h0, X', hL, e1, e2, ⟨⟨r, u, hv, hp, hb⟩, hF⟩, st⟩ | ⟨q, st₀, t, T', L, E, ce, h0, X', hL, e1, e2, ⟨u, hp, hb, hF⟩, hce, hcv, hcl, st⟩
  · cases hv
    obtain ⟨k1, k2, k3⟩ := vx_keep h0 e1 hS hA hf hL hF
    obtain ⟨t2, a1, b1⟩ := kk r u t T'.heap (locs ++ L) e1.symm (by rw [← e2]; exact X'.warmed.alike) hp hb k1 k2 k3 T' rfl X'
    exact ⟨t2, st t2 a1, b1⟩
  · obtain ⟨k1, k2, k3⟩ := vx_keep h0 e1 hS hAX hf hL hF
    obtain ⟨t2, a1, b1⟩ := kx E ce q u t T'.heap (locs ++ L) e1.symm (by rw [← e2]; exact X'.warmed.alike) hp hb k1 k2 k3 (by rw [e1]; exact hce) hcv hcl T' rfl X'
    exact ⟨t2, st.trans a1, b1⟩
theorem vx_callv {S SX : Type} {post : S → Prop} {px : SX → Prop} {B : S → State → Prop} {BX : String → SX → State → Prop} {AX : Nat → Prop} (hr : vx_Run p l e R s m args below meth c H locs cells slots mc ms (F0 m pc ls st0) rest (va_Qv post B A1 a) (vx_X px BX AX) free) (hS : va_S A0 H0 H locs) (hA : ∀ q, q < H.size → A1 q → A0 q) (hf : ∀ q, free q → A0 q) (hAX : ∀ q, q < H.size → AX q → A0 q)
    (kx : ∀ (E : String) (ce : Cell) (q9 : Addr) (u : SX) (t : State) (H1 : Heap) (locs1 : List Loc), t.heap = H1 → s.vm.Alike t.vm → px u → BX E u t → H.size ≤ H1.size → (∀ q : Nat, q < H.size → ¬ AX q → H1[q]? = H[q]?) → va_S A0 H0 H1 locs1 → H1[q9]? = some ce → ce.vm = .none → s.vm.findClass E = some ce.cls → vx_W p l e R s m args below meth c H1 locs1 (cells + mc) (slots + ms) Q (F0 m pc ls rest) q9)
    (kk : ∀ (u : S) (t : State) (H1 : Heap) (locs1 : List Loc), t.heap = H1 → s.vm.Alike t.vm → post u → B u t → H.size ≤ H1.size → (∀ q : Nat, q < H.size → ¬ A1 q → H1[q]? = H[q]?) → va_S A0 H0 H1 locs1 → W p l e R s m args below meth c H1 locs1 (cells + mc) (slots + ms) Q (F0 m (pc + 3) ls (rest))) : W p l e R s m args below meth c H locs cells slots Q (F0 m pc ls st0) := by
  intro T hT X
  rcases hr T hT X with ⟨v, st₀, t, T', L, h0, X', hL, e1, e2, ⟨⟨u, hv, hp, hb⟩, hF⟩, st⟩ | ⟨q, st₀, t, T', L, E, ce, h0, X', hL, e1, e2, ⟨u, hp, hb, hF⟩, hce, hcv, hcl, st⟩
  · cases hv
    obtain ⟨k1, k2, k3⟩ := vx_keep h0 e1 hS hA hf hL hF
    obtain ⟨t2, a1, b1⟩ := kk u t T'.heap (locs ++ L) e1.symm (by rw [← e2]; exact X'.warmed.alike) hp hb k1 k2 k3 T' rfl X'
    exact ⟨t2, st t2 a1, b1⟩
  · obtain ⟨k1, k2, k3⟩ := vx_keep h0 e1 hS hAX hf hL hF
    obtain ⟨t2, a1, b1⟩ := kx E ce q u t T'.heap (locs ++ L) e1.symm (by rw [← e2]; exact X'.warmed.alike) hp hb k1 k2 k3 (by rw [e1]; exact hce) hcv hcl T' rfl X'
    exact ⟨t2, st.trans a1, b1⟩
end Rows
section Ends
variable {p : Program} {l : Launch} {e : Env} {R : Room} {s : State} {m : MethodId} {args : Array Value} {below : List Frame} {meth : Method} {c : Code} {H : Heap} {locs : List Loc} {cells slots : Nat} {Q : State → Prop}
variable {mc ms : Nat} {free : Addr → Prop} {A0 A1 : Nat → Prop} {H0 : Heap} {a : Array Value} {ls : Array Slot} {st0 rest : List Value}
variable {Qc : Array Value → State → Outcome → State → Prop} {XC : String → State → State → Prop}
/-- what a body that may throw owes at its end -/
def vx_MQ (below : List Frame) (Qc : Array Value → State → Outcome → State → Prop) (XC : String → State → State → Prop) (a : Array Value) (s : State) (mc ms : Nat) (free : Addr → Prop) : State → Prop := fun t =>
  ∃ o, t.status = .running ∧ Ended t below o ∧ vx_Q Qc XC mc ms free a s o t
theorem vx_ret {g : JFrame} {mc ms : Nat} (k : W p l e R s m args below meth c H locs cells slots (MQ below Qc args s mc ms free) g) : W p l e R s m args below meth c H locs cells slots (vx_MQ below Qc XC args s mc ms free) g := by
  intro T hT X
  obtain ⟨t, a1, o, b1, b2, b3, b4⟩ := k T hT X
  exact ⟨t, a1, o, b1, b2, Or.inl ⟨b3, b4⟩⟩
/-- not caught here: it goes on to the caller -/
theorem vx_widen {g : JFrame} {q : Addr} {k n : Nat} (h1 : cells ≤ k) (h2 : slots ≤ n) (kk : vx_W p l e R s m args below meth c H locs k n Q g q) : vx_W p l e R s m args below meth c H locs cells slots Q g q := fun T hT X => kk T hT (stand_widen X h1 h2)
theorem vx_out {pc : Nat} {E : String} {ce : Cell} {q : Addr} {mc ms : Nat} (hout : ∀ x ∈ c.exceptionTable.toList, covers x pc = false) (hlocks : meth.locks = false) (hcell : H[q]? = some ce) (hv : ce.vm = .none) (hcl : s.vm.findClass E = some ce.cls)
    (hx : ∀ t : State, t.heap = H → s.vm.Alike t.vm → XC E s t) (hf : ∀ z ∈ locs, free z.base) (hc : cells ≤ mc) (hs : slots ≤ ms) :
    vx_W p l e R s m args below meth c H locs cells slots (vx_MQ below Qc XC args s mc ms free) (F0 m pc ls rest) q := by
  intro T hT X
  obtain ⟨st1, hrun, hend, hW, hsm⟩ := X.leaveThrown q (g := F0 m pc ls rest) rfl rfl rfl hout hlocks
  have hcell9 : (T.setFrames (.throwing q :: below)).heap[q]? = some ce := by
    show T.heap[q]? = some ce
    rw [hT]; exact hcell
  exact ⟨_, st1, .threw q, hrun, hend, Or.inr ⟨q, rfl, E, ce, locs, hx _ hT hW.alike, hcell9, hv, hcl, hW, hsm.mono hc hs, hf⟩⟩
theorem vx_frame {U : State} {k n : Nat} (h : s.sameButNew ({ U with vm := s.vm } : State) locs k n) : s.heap.size ≤ U.heap.size ∧ ∀ q : Nat, q < s.heap.size → (∀ z ∈ locs, z.base ≠ q) → U.heap[q]? = s.heap[q]? := by
  obtain ⟨-, h2, -, -, -, h6⟩ := h
  refine ⟨h2, fun q hq hz => ?_⟩
  obtain ⟨c9, e1, e2, e3, e4⟩ := h6 q _ (Array.getElem?_eq_getElem hq)
  have hs : c9.slots = (s.heap[q]).slots := Array.ext_getElem? fun i => e4 i fun hm => hz _ hm rfl
  have h9 : c9 = s.heap[q] := by
    rw [hs] at e2
    exact e2
  have e5 : U.heap[q]? = some c9 := e1
  rw [e5, h9, Array.getElem?_eq_getElem hq]
/-- the words of a throw but the four that speak of the heap -/
def vx_no (w : Cond) : Bool := decide (w ≠ .isRef (.static Bundle.tN "UNASSIGNED_STACK" Bundle.steD)) && decide (w ≠ .isRef (.static Bundle.tN "SUPPRESSED_SENTINEL" Bundle.listD)) && decide (w ≠ .laysStatic Bundle.tN "UNASSIGNED_STACK" Bundle.steD) && decide (w ≠ .laysStatic Bundle.tN "SUPPRESSED_SENTINEL" Bundle.listD)
def vx_at0 (own : String) (ic : Nat) (X : String) (names : List String) : List Cond := (Bundle.ownAtoms0 own ic X names).filter vx_no
def vx_atS (own : String) (ic : Nat) (X : String) (names : List String) : List Cond := (Bundle.ownAtoms own ic X names).filter vx_no
/-- a word that the tables alone decide, or a good one -/
def vx_ot (w : Cond) : Bool := w.onTables || goodWord w
theorem vx_ot_at {args a' : Array Value} {s U : State} {w : Cond} (hW : s.WarmedH U.vm) (hvm : s.vm = U.vm) (hg : vx_ot w = true) (h : w.before args s = true) : w.before a' U = true := by
  simp only [vx_ot, Bool.or_eq_true] at hg
  rcases hg with hg | hg
  · exact va_tabs hg hvm h
  · exact word_at hW (good_of_word hg) h
/-- a list's words: the good ones out of the method's own list, the others by premises of their own -/
theorem vx_hat {args : Array Value} {s : State} {L B : List Cond} (h1 : ∀ w ∈ L.filter goodWord, w.before args s = true) (h2 : ∀ w ∈ L.filter (fun w => !goodWord w), w ∈ B) (h3 : ∀ w ∈ B, w.before args s = true) : ∀ w ∈ L, w.before args s = true := by
  intro w hw
  by_cases g : goodWord w = true
  · exact h1 w (List.mem_filter.mpr ⟨hw, g⟩)
  · refine h3 w (h2 w (List.mem_filter.mpr ⟨hw, ?_⟩))
    show (!goodWord w) = true
    cases hgw : goodWord w
    · rfl
    · exact absurd hgw g
theorem vx_c {args : Array Value} {s : State} {w : Cond} {B : List Cond} (h : w.before args s = true) (t : ∀ w ∈ B, w.before args s = true) : ∀ w' ∈ w :: B, w'.before args s = true := fun w' h' => (List.mem_cons.mp h').elim (fun e => by rw [e]; exact h) (t w')
theorem vx_n {args : Array Value} {s : State} : ∀ w ∈ ([] : List Cond), w.before args s = true := fun _ h => nomatch h
theorem vx_own {args : Array Value} {s : State} {L : List Cond} (h1 : ∀ w ∈ L.filter vx_no, w.before args s = true)
    (hU : (Cond.isRef (.static Bundle.tN "UNASSIGNED_STACK" Bundle.steD)).before args s = true) (hN : (Cond.isRef (.static Bundle.tN "SUPPRESSED_SENTINEL" Bundle.listD)).before args s = true)
    (lU : (Cond.laysStatic Bundle.tN "UNASSIGNED_STACK" Bundle.steD).before args s = true) (lN : (Cond.laysStatic Bundle.tN "SUPPRESSED_SENTINEL" Bundle.listD).before args s = true) : ∀ w ∈ L, w.before args s = true := by
  intro w hw
  by_cases e1 : w = .isRef (.static Bundle.tN "UNASSIGNED_STACK" Bundle.steD)
  · rw [e1]; exact hU
  · by_cases e2 : w = .isRef (.static Bundle.tN "SUPPRESSED_SENTINEL" Bundle.listD)
    · rw [e2]; exact hN
    · by_cases e3 : w = .laysStatic Bundle.tN "UNASSIGNED_STACK" Bundle.steD
      · rw [e3]; exact lU
      · by_cases e4 : w = .laysStatic Bundle.tN "SUPPRESSED_SENTINEL" Bundle.listD
        · rw [e4]; exact lN
        · exact h1 w (List.mem_filter.mpr ⟨hw, by unfold vx_no; rw [decide_eq_true e1, decide_eq_true e2, decide_eq_true e3, decide_eq_true e4]; rfl⟩)
/-- where a static field lies, its class's statics cell in H -/
def vx_L (C n d : String) (A : Nat → Prop) (U : State) (H : Heap) : Prop := ∃ (c : ClassId) (k : Class) (i : Nat) (f : Field) (a : Nat) (cell : Cell), U.vm.findClass C = some c ∧ U.fieldFound? C n d = some (c, k, i, f) ∧ f.isStatic = true ∧ k.statics = some a ∧ H[a]? = some cell ∧ cell.vm.isStatics = true ∧ cell.cls = c ∧ f.slot < cell.slots.size ∧ k.staticTypes[f.slot]? = some f.type ∧ ¬ A a
theorem vx_L.moved {C n d : String} {A : Nat → Prop} {u U : State} {H : Heap} (hvm : u.vm.Alike U.vm) (h : vx_L C n d A u H) : vx_L C n d A U H := by
  obtain ⟨c, k, i, f, a, cell, h1, h2, h3, h4, h5, h6, h7, h8, h9, h10⟩ := h
  obtain ⟨k', hi', he⟩ := State.fieldFound?_setVm hvm h2
  exact ⟨c, k', i, f, a, cell, by rw [hvm.findClass]; exact h1, hi', h3, by rw [he]; exact h4, h5, h6, h7, h8, by rw [he]; exact h9, h10⟩
theorem vx_L.kept {C n d : String} {A : Nat → Prop} {U : State} {H H1 : Heap} (h : vx_L C n d A U H) (hq : ∀ a : Nat, a < H.size → ¬ A a → H1[a]? = H[a]?) : vx_L C n d A U H1 := by
  obtain ⟨c, k, i, f, a, cell, h1, h2, h3, h4, h5, h6, h7, h8, h9, h10⟩ := h
  exact ⟨c, k, i, f, a, cell, h1, h2, h3, h4, by rw [hq a (Array.getElem?_eq_some_iff.mp h5).1 h10]; exact h5, h6, h7, h8, h9, h10⟩
theorem vx_L.narrow {C n d : String} {A B : Nat → Prop} {U : State} {H : Heap} (h : vx_L C n d A U H) (hAB : ∀ q, B q → A q) : vx_L C n d B U H := by
  obtain ⟨c, k, i, f, a, cell, h1, h2, h3, h4, h5, h6, h7, h8, h9, h10⟩ := h
  exact ⟨c, k, i, f, a, cell, h1, h2, h3, h4, h5, h6, h7, h8, h9, fun z => h10 (hAB _ z)⟩
theorem vx_L.word {C n d : String} {A : Nat → Prop} {s : State} {args : Array Value} (h : vx_L C n d A s s.heap) : (Cond.laysStatic C n d).before args s = true := by
  obtain ⟨c, k, i, f, a, cell, h1, h2, h3, h4, h5, h6, h7, h8, h9, -⟩ := h
  show (Cond.laysStatic C n d).holds args s none s [] = true
  exact Cond.laysStatic_of h1 h2 h3 h4 h5 h6 h7 h8 h9
/-- .. and what it holds: null or some reference -/
def vx_Zq (C n d : String) (A : Nat → Prop) (U : State) (H : Heap) : Prop := va_Zq C n d A U H ∧ vx_L C n d A U H
theorem vx_Zq.moved {C n d : String} {A : Nat → Prop} {u U : State} {H : Heap} (hvm : u.vm.Alike U.vm) (h : vx_Zq C n d A u H) : vx_Zq C n d A U H := ⟨va_Zq.moved hvm h.1, vx_L.moved hvm h.2⟩
theorem vx_Zq.kept {C n d : String} {A : Nat → Prop} {U : State} {H H1 : Heap} (h : vx_Zq C n d A U H) (hq : ∀ a : Nat, a < H.size → ¬ A a → H1[a]? = H[a]?) : vx_Zq C n d A U H1 := ⟨va_Zq.kept h.1 hq, vx_L.kept h.2 hq⟩
theorem vx_Zq.narrow {C n d : String} {A B : Nat → Prop} {U : State} {H : Heap} (h : vx_Zq C n d A U H) (hAB : ∀ q, B q → A q) : vx_Zq C n d B U H := ⟨va_Zq.narrow h.1 hAB, vx_L.narrow h.2 hAB⟩
theorem vx_Zqof {args : Array Value} {s : State} {C n d : String} {A : Nat → Prop} (hl : (Cond.laysStatic C n d).before args s = true) (hini : (Cond.initialized C).before args s = true) (h : (Cond.isRef (.static C n d)).before args s = true) (hA : ∀ a : Nat, a < s.heap.size → ¬ A a) : vx_Zq C n d A s s.heap := by
  refine ⟨va_Zqof hl hini h hA, ?_⟩
  obtain ⟨c, k, i, f, a, cell, h1, h2, h3, h4, h5, h6, h7, h8, h9⟩ := Cond.laysStatic_spec hl
  exact ⟨c, k, i, f, a, cell, h1, h2, h3, h4, h5, h6, h7, h8, h9, hA a (Array.getElem?_eq_some_iff.mp h5).1⟩
theorem vx_isRef {C n d : String} {v : Value} {A : Nat → Prop} {s : State} {args : Array Value} (h : va_Z C n d v A s s.heap) (hv : v.isRef = true) : (Cond.isRef (.static C n d)).before args s = true := by
  obtain ⟨cf, kf, fi, f, a, cell, h1, h2, h3, h4, h5, h6, h7, -⟩ := h
  have he : (Term.static C n d).eval args s none [] s = some v := by
    simp [Term.eval, State.fieldNamed?, h1, h2, h4, h5, h6, h7]
  simp only [Cond.before, Cond.holds, Cond.value, he]
  cases v <;> simp_all [Value.isRef]
theorem vx_isRefq {C n d : String} {A : Nat → Prop} {s : State} {args : Array Value} (h : va_Zq C n d A s s.heap) : (Cond.isRef (.static C n d)).before args s = true := by
  rcases h with h | ⟨t, h⟩
  · exact vx_isRef h rfl
  · exact vx_isRef h rfl
/-- the same frame, seen from here: as if the method were called anew in this heap -/
theorem vx_rebase {T : State} (X : Stand p l e R s m args below meth c T locs cells slots) {R' : Room} (hf : R'.frames ≤ R.frames) (hl : R'.locals ≤ R.locals) (hc : cells + R'.cells ≤ R.cells) (hs : slots + R'.slots ≤ R.slots) :
    Stand p l e R' ((T.setVm s.vm).setFrames (.invoking m args :: below)) m args below meth c T [] 0 0 := by
  have htop : (T.setVm s.vm).topJava?.isSome := X.here.top
  have hF : ((T.setVm s.vm).setFrames (.invoking m args :: below)).frames = .invoking m args :: below := State.frames_setFrames _ (State.cur_lt_of_top htop)
  obtain ⟨g₀, hg0⟩ := Option.isSome_iff_exists.mp htop
  obtain ⟨r, hr⟩ := State.topJava?_eq_some.mp hg0
  have hl9 : e.platform.stackLimits (T.setVm s.vm).me = e.platform.stackLimits s.me := X.limits
  have hb9 : (T.setVm s.vm).me.stackBytes = s.me.stackBytes := X.bytes
  refine ⟨X.admits, X.cas, X.clock, hF, ?_, X.hears, X.method, X.code, X.here, X.tail, X.warmed, ?_, ?_, ?_⟩
  · have h := X.room
    have hU : ((T.setVm s.vm).setFrames (.invoking m args :: below)).localsInUse = s.localsInUse := by
      rw [State.localsInUse_invoking hF (meth := meth) (c := c) X.method X.code, State.localsInUse_invoking X.frames X.method X.code]
    simp only [State.hasRoom, Bool.and_eq_true, decide_eq_true_eq] at h ⊢
    obtain ⟨⟨⟨⟨h1, h2, h3, h4, h5, h6⟩, h7⟩, h8⟩, h9⟩ := h
    rw [X.frames, List.length_cons] at h2 h3
    have q1 := X.heapSize
    have q2 := X.used
    simp only [hF, hU, List.length_cons, State.stackLimits_setFrames, State.stackBytes_setFrames, hl9, hb9]
    refine ⟨⟨⟨⟨by omega, by omega, by omega, by omega, by omega, h6⟩, ?_⟩, ?_⟩, X.book⟩
    · show T.heap.size + R'.cells ≤ e.platform.maxCells
      omega
    · show T.slotsUsed + R'.slots ≤ e.platform.maxSlots
      omega
  · rw [State.stackLimits_setFrames]; rfl
  · rw [State.stackBytes_setFrames]; rfl
  · refine ⟨?_, Nat.le_refl _, Nat.le_refl _, ?_, ?_, fun a c9 h9 => ⟨c9, h9, rfl, rfl, fun _ _ => rfl⟩⟩
    · obtain ⟨t, ht, -⟩ := State.frames_cons hr
      show T.setVm s.vm = { ((T.setVm s.vm).setFrames (.invoking m args :: below)).setFrames (T.setVm s.vm).frames with heap := T.heap, slotsUsed := T.slotsUsed }
      rw [State.setFrames_setFrames, State.setFrames_self ht]
      rfl
    · show T.slotsUsed = T.slotsUsed + ((T.heap.toList.drop T.heap.size).map (·.slots.size)).sum
      rw [List.drop_eq_nil_of_le (Nat.le_of_eq Array.length_toList)]
      rfl
    · show ((T.heap.toList.drop T.heap.size).map (·.slots.size)).sum ≤ 0
      rw [List.drop_eq_nil_of_le (Nat.le_of_eq Array.length_toList)]
      exact Nat.le_refl _
/-- 'throw new E()': new; dup; invokespecial; athrow -/
theorem vx_throw0 {cc : ByteArray} {pc : Nat} (hexec : p.tables.exec = Jvm.exec) (hb : c.code = cc) (hl : l.stackTraces = false) {own cls : String} {names : List String} {ik ic mc ms : Nat} {A : Nat → Prop}
    (hown : s.vm.findClass own = some m.cls) (hcls : Bundle.fit cls = true) (hnames : ∀ n ∈ names, Bundle.fit n = true)
    (hk : (Cond.classLink own ik cls).before args s = true) (hini : (Cond.initialized cls).before args s = true) (hat : ∀ w ∈ vx_at0 own ic cls names, w.before args s = true)
    (hgood : ∀ w ∈ Cond.classLink own ik cls :: Cond.initialized cls :: vx_at0 own ic cls names, vx_ot w = true)
    (hU : vx_Zq Bundle.tN "UNASSIGNED_STACK" Bundle.steD A s s.heap) (hN : vx_Zq Bundle.tN "SUPPRESSED_SENTINEL" Bundle.listD A s s.heap) (hS : va_S A s.heap H locs) (hsize : ls.size = c.maxLocals)
    (d0 : decode cc pc = .ok (.new ik, 3)) (d3 : decode cc (pc + 3) = .ok (.dup, 1)) (d4 : decode cc (pc + 4) = .ok (.invokespecial ic, 3)) (d7 : decode cc (pc + 7) = .ok (.athrow, 1))
    (hout : ∀ x ∈ c.exceptionTable.toList, covers x (pc + 7) = false)
    (hRframes : names.length + 3 < R.frames) (hRlocals : (rest.map fun v => v.category).sum + (13 * (names.length + 1) + 42) ≤ R.locals) (hRcells : cells + 1 ≤ R.cells) (hRslots : slots + 6 ≤ R.slots) (hlocks : meth.locks = false)
    (hx : ∀ t : State, s.vm.Alike t.vm → H.size ≤ t.heap.size → (∀ q : Nat, q < H.size → t.heap[q]? = H[q]?) → XC cls s t)
    (hf : ∀ z ∈ locs, free z.base) (hc : cells + 1 ≤ mc) (hs : slots + 6 ≤ ms) :
    W p l e R s m args below meth c H locs cells slots (vx_MQ below Qc XC args s mc ms free) (F0 m pc ls rest) := by
  intro T hT X
  have htr : e.platform.stackTraces = false := (show e.platform.stackTraces = l.stackTraces by rw [X.admits.platform]).trans hl
  have Y := vx_rebase X (R' := { frames := R.frames, locals := R.locals, cells := 1, slots := 6 }) (Nat.le_refl _) (Nat.le_refl _) hRcells hRslots
  obtain ⟨s', hA⟩ : ∃ z, z = (T.setVm s.vm).setFrames (.invoking m args :: below) := ⟨_, rfl⟩
  rw [← hA] at Y
  have hvm : s'.vm = s.vm := by rw [hA]; rfl
  have hhp : s'.heap = H := by rw [hA]; exact hT
  have hW0 : s.WarmedH s'.vm := by rw [hvm]; exact State.WarmedH.refl s
  have hat' : ∀ w ∈ vx_at0 own ic cls names, w.before args s' = true := fun w hw => vx_ot_at hW0 hvm.symm (hgood w (List.mem_cons_of_mem _ (List.mem_cons_of_mem _ hw))) (hat w hw)
  have hk' : (Cond.classLink own ik cls).before args s' = true := vx_ot_at hW0 hvm.symm (hgood _ List.mem_cons_self) hk
  have hini' : (Cond.initialized cls).before args s' = true := vx_ot_at hW0 hvm.symm (hgood _ (List.mem_cons_of_mem _ List.mem_cons_self)) hini
  have hU' : vx_Zq Bundle.tN "UNASSIGNED_STACK" Bundle.steD A s' s'.heap := by rw [hhp]; exact vx_Zq.moved hW0.alike (hU.kept hS.2.1)
  have hN' : vx_Zq Bundle.tN "SUPPRESSED_SENTINEL" Bundle.listD A s' s'.heap := by rw [hhp]; exact vx_Zq.moved hW0.alike (hN.kept hS.2.1)
  have h : ∀ w ∈ Bundle.ownAtoms0 own ic cls names, w.before args s' = true := vx_own hat' (vx_isRefq hU'.1) (vx_isRefq hN'.1) hU'.2.word hN'.2.word
  have hown' : s'.vm.findClass own = some m.cls := by rw [hvm]; exact hown
  have hins : (Cond.instantiable cls 6).before args s' = true := h _ (by simp [Bundle.ownAtoms0])
  obtain ⟨vm₁, cX, kX, hfX, hkX, -, -, X₁, st1⟩ := Y.newCold hexec (own := own) (C := cls) (index := ik) (n := 6) hown' hk' hins hini'
    (g := F0 m pc ls rest) rfl (by rw [hb]; exact d0) (Nat.le_refl _) (Nat.le_refl _)
  generalize hT1 : (T.setVm vm₁).pushCell { cls := cX, slots := kX.instanceTypes.map defaultValue, vm := .none } = T1 at X₁ st1
  have hcat : (Value.ref T.heap.size).category = 1 := rfl
  have hcellA : T1.heap[T.heap.size]? = some (freshCell cX kX) := by rw [← hT1]; exact State.heap_pushCell_size _ _
  have d3' : decode c.code (pc + 3) = .ok (.dup, 1) := by rw [hb]; exact d3
  obtain ⟨U, hsteps, hrun, hend, hW, hsame, ce, hce, hO⟩ := X₁.ctorThrow0 hexec htr (own := own) (cls := cls) (names := names) (ic := ic) hown' hcls hnames h (fun x hx => nomatch hx) hfX hkX hcellA (by rw [hhp, hT]; exact Nat.le_refl _)
    (g := { method := m, pc := pc + 4, locals := ls, stack := .ref T.heap.size :: .ref T.heap.size :: rest, locked := none }) rfl hsize rfl rfl (rest := rest) rfl
    (by rw [hb]; exact d4) (by rw [hb]; exact d7) hout hRframes (by simp only [List.map_cons, List.sum_cons, hcat]; omega) hlocks
  obtain ⟨f1, f2⟩ := vx_frame hsame
  rw [hhp] at f1 f2
  have hWs : s.WarmedH U.vm := State.WarmedH.trans hW0 hW
  have hcl : s.vm.findClass cls = some ce.cls := by
    have h9 := hO.cls
    rw [hvm] at h9
    exact h9
  have hall : s.sameButNew ({ U with vm := s.vm } : State) locs mc ms := by
    subst hA
    obtain ⟨e1, e2⟩ := hsame
    rw [State.setFrames_setFrames] at e1
    have h2 : (T.setVm s.vm).sameButNew ({ U with vm := s.vm } : State) [] (0 + 1) (0 + 6) := ⟨e1, e2⟩
    have h3 := X.same.trans h2
    rw [List.append_nil] at h3
    exact h3.mono hc hs
  refine ⟨U, ?_, .threw T.heap.size, hrun, hend, Or.inr ⟨T.heap.size, rfl, cls, ce, locs, hx U hWs.alike f1 (fun q hq => f2 q hq (fun z hz => nomatch hz)), hce, hO.vm, hcl, hWs, hall, hf⟩⟩
  refine st1 _ ?_
  show Steps p.tables e below (T1.setTop { method := m, pc := pc + 3, locals := ls, stack := .ref T.heap.size :: rest, locked := none }) _
  jvm_step X₁.here [X₁.here.top, hexec, d3', Value.category]
  exact hsteps
/-- 'throw new E("text")': new; dup; ldc; invokespecial; athrow -/
theorem vx_throwS {cc : ByteArray} {pc : Nat} (hexec : p.tables.exec = Jvm.exec) (hb : c.code = cc) (hl : l.stackTraces = false) {own cls text : String} {names : List String} {ik is ic mc ms sa : Nat} {A : Nat → Prop}
    (hown : s.vm.findClass own = some m.cls) (hcls : Bundle.fit cls = true) (hnames : ∀ n ∈ names, Bundle.fit n = true)
    (hk : (Cond.classLink own ik cls).before args s = true) (hini : (Cond.initialized cls).before args s = true) (hstr : vk_R own is text sa s) (hat : ∀ w ∈ vx_atS own ic cls names, w.before args s = true)
    (hgood : ∀ w ∈ Cond.classLink own ik cls :: Cond.initialized cls :: vx_atS own ic cls names, vx_ot w = true)
    (hU : vx_Zq Bundle.tN "UNASSIGNED_STACK" Bundle.steD A s s.heap) (hN : vx_Zq Bundle.tN "SUPPRESSED_SENTINEL" Bundle.listD A s s.heap) (hS : va_S A s.heap H locs) (hsize : ls.size = c.maxLocals)
    (d0 : decode cc pc = .ok (.new ik, 3)) (d3 : decode cc (pc + 3) = .ok (.dup, 1)) (d4 : decode cc (pc + 4) = .ok (.ldc is, 2)) (d6 : decode cc (pc + 6) = .ok (.invokespecial ic, 3)) (d9 : decode cc (pc + 9) = .ok (.athrow, 1))
    (hout : ∀ x ∈ c.exceptionTable.toList, covers x (pc + 9) = false)
    (hRframes : names.length + 3 < R.frames) (hRlocals : (rest.map fun v => v.category).sum + (13 * (names.length + 1) + 43) ≤ R.locals) (hRcells : cells + 1 ≤ R.cells) (hRslots : slots + 6 ≤ R.slots) (hlocks : meth.locks = false)
    (hx : ∀ t : State, s.vm.Alike t.vm → H.size ≤ t.heap.size → (∀ q : Nat, q < H.size → t.heap[q]? = H[q]?) → XC cls s t)
    (hf : ∀ z ∈ locs, free z.base) (hc : cells + 1 ≤ mc) (hs : slots + 6 ≤ ms) :
    W p l e R s m args below meth c H locs cells slots (vx_MQ below Qc XC args s mc ms free) (F0 m pc ls rest) := by
  intro T hT X
  have htr : e.platform.stackTraces = false := (show e.platform.stackTraces = l.stackTraces by rw [X.admits.platform]).trans hl
  have Y := vx_rebase X (R' := { frames := R.frames, locals := R.locals, cells := 1, slots := 6 }) (Nat.le_refl _) (Nat.le_refl _) hRcells hRslots
  obtain ⟨s', hA⟩ : ∃ z, z = (T.setVm s.vm).setFrames (.invoking m args :: below) := ⟨_, rfl⟩
  rw [← hA] at Y
  have hvm : s'.vm = s.vm := by rw [hA]; rfl
  have hhp : s'.heap = H := by rw [hA]; exact hT
  have hW0 : s.WarmedH s'.vm := by rw [hvm]; exact State.WarmedH.refl s
  have hat' : ∀ w ∈ vx_atS own ic cls names, w.before args s' = true := fun w hw => vx_ot_at hW0 hvm.symm (hgood w (List.mem_cons_of_mem _ (List.mem_cons_of_mem _ hw))) (hat w hw)
  have hk' : (Cond.classLink own ik cls).before args s' = true := vx_ot_at hW0 hvm.symm (hgood _ List.mem_cons_self) hk
  have hini' : (Cond.initialized cls).before args s' = true := vx_ot_at hW0 hvm.symm (hgood _ (List.mem_cons_of_mem _ List.mem_cons_self)) hini
  have hU' : vx_Zq Bundle.tN "UNASSIGNED_STACK" Bundle.steD A s' s'.heap := by rw [hhp]; exact vx_Zq.moved hW0.alike (hU.kept hS.2.1)
  have hN' : vx_Zq Bundle.tN "SUPPRESSED_SENTINEL" Bundle.listD A s' s'.heap := by rw [hhp]; exact vx_Zq.moved hW0.alike (hN.kept hS.2.1)
  have h : ∀ w ∈ Bundle.ownAtoms own ic cls names, w.before args s' = true := vx_own hat' (vx_isRefq hU'.1) (vx_isRefq hN'.1) hU'.2.word hN'.2.word
  have hown' : s'.vm.findClass own = some m.cls := by rw [hvm]; exact hown
  have hins : (Cond.instantiable cls 6).before args s' = true := h _ (by simp [Bundle.ownAtoms])
  obtain ⟨vm₁, cX, kX, hfX, hkX, -, -, X₁, st1⟩ := Y.newCold hexec (own := own) (C := cls) (index := ik) (n := 6) hown' hk' hins hini'
    (g := F0 m pc ls rest) rfl (by rw [hb]; exact d0) (Nat.le_refl _) (Nat.le_refl _)
  generalize hT1 : (T.setVm vm₁).pushCell { cls := cX, slots := kX.instanceTypes.map defaultValue, vm := .none } = T1 at X₁ st1
  have hcat : (Value.ref T.heap.size).category = 1 := rfl
  have hcellA : T1.heap[T.heap.size]? = some (freshCell cX kX) := by rw [← hT1]; exact State.heap_pushCell_size _ _
  have d3' : decode c.code (pc + 3) = .ok (.dup, 1) := by rw [hb]; exact d3
  have d4' : decode c.code (pc + 4) = .ok (.ldc is, 2) := by rw [hb]; exact d4
  have hstr' : vk_R own is text sa s' := vk_R.warm hW0 hstr
  obtain ⟨U, hsteps, hrun, hend, hW, hsame, ce, hce, hO⟩ := X₁.ctorThrowS hexec htr (own := own) (cls := cls) (names := names) (ic := ic) hown' hcls hnames h (fun x hx => nomatch hx) hfX hkX hcellA (by rw [hhp, hT]; exact Nat.le_refl _) (msg := .ref sa) rfl
    (g := { method := m, pc := pc + 6, locals := ls, stack := .ref sa :: .ref T.heap.size :: .ref T.heap.size :: rest, locked := none }) rfl hsize rfl rfl (rest := rest) rfl
    (by rw [hb]; exact d6) (by rw [hb]; exact d9) hout hRframes (by simp only [List.map_cons, List.sum_cons, hcat]; omega) hlocks
  obtain ⟨f1, f2⟩ := vx_frame hsame
  rw [hhp] at f1 f2
  have hWs : s.WarmedH U.vm := State.WarmedH.trans hW0 hW
  have hcl : s.vm.findClass cls = some ce.cls := by
    have h9 := hO.cls
    rw [hvm] at h9
    exact h9
  have hall : s.sameButNew ({ U with vm := s.vm } : State) locs mc ms := by
    subst hA
    obtain ⟨e1, e2⟩ := hsame
    rw [State.setFrames_setFrames] at e1
    have h2 : (T.setVm s.vm).sameButNew ({ U with vm := s.vm } : State) [] (0 + 1) (0 + 6) := ⟨e1, e2⟩
    have h3 := X.same.trans h2
    rw [List.append_nil] at h3
    exact h3.mono hc hs
  refine ⟨U, ?_, .threw T.heap.size, hrun, hend, Or.inr ⟨T.heap.size, rfl, cls, ce, locs, hx U hWs.alike f1 (fun q hq => f2 q hq (fun z hz => nomatch hz)), hce, hO.vm, hcl, hWs, hall, hf⟩⟩
  refine st1 _ ?_
  show Steps p.tables e below (T1.setTop { method := m, pc := pc + 3, locals := ls, stack := .ref T.heap.size :: rest, locked := none }) _
  jvm_step X₁.here [X₁.here.top, hexec, d3', Value.category]
  exact X₁.ldcString hexec (own := own) (text := text) (index := is) (a := sa) hown' hstr'.1 hstr'.2
    (g := { method := m, pc := pc + 4, locals := ls, stack := .ref T.heap.size :: .ref T.heap.size :: rest, locked := none }) rfl d4' _ hsteps
/-- 'throw new E("text")', the text by a wide index -/
theorem vx_throwSW {cc : ByteArray} {pc : Nat} (hexec : p.tables.exec = Jvm.exec) (hb : c.code = cc) (hl : l.stackTraces = false) {own cls text : String} {names : List String} {ik is ic mc ms sa : Nat} {A : Nat → Prop}
    (hown : s.vm.findClass own = some m.cls) (hcls : Bundle.fit cls = true) (hnames : ∀ n ∈ names, Bundle.fit n = true)
    (hk : (Cond.classLink own ik cls).before args s = true) (hini : (Cond.initialized cls).before args s = true) (hstr : vk_R own is text sa s) (hat : ∀ w ∈ vx_atS own ic cls names, w.before args s = true)
    (hgood : ∀ w ∈ Cond.classLink own ik cls :: Cond.initialized cls :: vx_atS own ic cls names, vx_ot w = true)
    (hU : vx_Zq Bundle.tN "UNASSIGNED_STACK" Bundle.steD A s s.heap) (hN : vx_Zq Bundle.tN "SUPPRESSED_SENTINEL" Bundle.listD A s s.heap) (hS : va_S A s.heap H locs) (hsize : ls.size = c.maxLocals)
    (d0 : decode cc pc = .ok (.new ik, 3)) (d3 : decode cc (pc + 3) = .ok (.dup, 1)) (d4 : decode cc (pc + 4) = .ok (.ldc_w is, 3)) (d7 : decode cc (pc + 7) = .ok (.invokespecial ic, 3)) (d10 : decode cc (pc + 10) = .ok (.athrow, 1))
    (hout : ∀ x ∈ c.exceptionTable.toList, covers x (pc + 10) = false)
    (hRframes : names.length + 3 < R.frames) (hRlocals : (rest.map fun v => v.category).sum + (13 * (names.length + 1) + 43) ≤ R.locals) (hRcells : cells + 1 ≤ R.cells) (hRslots : slots + 6 ≤ R.slots) (hlocks : meth.locks = false)
    (hx : ∀ t : State, s.vm.Alike t.vm → H.size ≤ t.heap.size → (∀ q : Nat, q < H.size → t.heap[q]? = H[q]?) → XC cls s t)
    (hf : ∀ z ∈ locs, free z.base) (hc : cells + 1 ≤ mc) (hs : slots + 6 ≤ ms) :
    W p l e R s m args below meth c H locs cells slots (vx_MQ below Qc XC args s mc ms free) (F0 m pc ls rest) := by
  intro T hT X
  have htr : e.platform.stackTraces = false := (show e.platform.stackTraces = l.stackTraces by rw [X.admits.platform]).trans hl
  have Y := vx_rebase X (R' := { frames := R.frames, locals := R.locals, cells := 1, slots := 6 }) (Nat.le_refl _) (Nat.le_refl _) hRcells hRslots
  obtain ⟨s', hA⟩ : ∃ z, z = (T.setVm s.vm).setFrames (.invoking m args :: below) := ⟨_, rfl⟩
  rw [← hA] at Y
  have hvm : s'.vm = s.vm := by rw [hA]; rfl
  have hhp : s'.heap = H := by rw [hA]; exact hT
  have hW0 : s.WarmedH s'.vm := by rw [hvm]; exact State.WarmedH.refl s
  have hat' : ∀ w ∈ vx_atS own ic cls names, w.before args s' = true := fun w hw => vx_ot_at hW0 hvm.symm (hgood w (List.mem_cons_of_mem _ (List.mem_cons_of_mem _ hw))) (hat w hw)
  have hk' : (Cond.classLink own ik cls).before args s' = true := vx_ot_at hW0 hvm.symm (hgood _ List.mem_cons_self) hk
  have hini' : (Cond.initialized cls).before args s' = true := vx_ot_at hW0 hvm.symm (hgood _ (List.mem_cons_of_mem _ List.mem_cons_self)) hini
  have hU' : vx_Zq Bundle.tN "UNASSIGNED_STACK" Bundle.steD A s' s'.heap := by rw [hhp]; exact vx_Zq.moved hW0.alike (hU.kept hS.2.1)
  have hN' : vx_Zq Bundle.tN "SUPPRESSED_SENTINEL" Bundle.listD A s' s'.heap := by rw [hhp]; exact vx_Zq.moved hW0.alike (hN.kept hS.2.1)
  have h : ∀ w ∈ Bundle.ownAtoms own ic cls names, w.before args s' = true := vx_own hat' (vx_isRefq hU'.1) (vx_isRefq hN'.1) hU'.2.word hN'.2.word
  have hown' : s'.vm.findClass own = some m.cls := by rw [hvm]; exact hown
  have hins : (Cond.instantiable cls 6).before args s' = true := h _ (by simp [Bundle.ownAtoms])
  obtain ⟨vm₁, cX, kX, hfX, hkX, -, -, X₁, st1⟩ := Y.newCold hexec (own := own) (C := cls) (index := ik) (n := 6) hown' hk' hins hini'
    (g := F0 m pc ls rest) rfl (by rw [hb]; exact d0) (Nat.le_refl _) (Nat.le_refl _)
  generalize hT1 : (T.setVm vm₁).pushCell { cls := cX, slots := kX.instanceTypes.map defaultValue, vm := .none } = T1 at X₁ st1
  have hcat : (Value.ref T.heap.size).category = 1 := rfl
  have hcellA : T1.heap[T.heap.size]? = some (freshCell cX kX) := by rw [← hT1]; exact State.heap_pushCell_size _ _
  have d3' : decode c.code (pc + 3) = .ok (.dup, 1) := by rw [hb]; exact d3
  have d4' : decode c.code (pc + 4) = .ok (.ldc_w is, 3) := by rw [hb]; exact d4
  have hstr' : vk_R own is text sa s' := vk_R.warm hW0 hstr
  obtain ⟨U, hsteps, hrun, hend, hW, hsame, ce, hce, hO⟩ := X₁.ctorThrowS hexec htr (own := own) (cls := cls) (names := names) (ic := ic) hown' hcls hnames h (fun x hx => nomatch hx) hfX hkX hcellA (by rw [hhp, hT]; exact Nat.le_refl _) (msg := .ref sa) rfl
    (g := { method := m, pc := pc + 7, locals := ls, stack := .ref sa :: .ref T.heap.size :: .ref T.heap.size :: rest, locked := none }) rfl hsize rfl rfl (rest := rest) rfl
    (by rw [hb]; exact d7) (by rw [hb]; exact d10) hout hRframes (by simp only [List.map_cons, List.sum_cons, hcat]; omega) hlocks
  obtain ⟨f1, f2⟩ := vx_frame hsame
  rw [hhp] at f1 f2
  have hWs : s.WarmedH U.vm := State.WarmedH.trans hW0 hW
  have hcl : s.vm.findClass cls = some ce.cls := by
    have h9 := hO.cls
    rw [hvm] at h9
    exact h9
  have hall : s.sameButNew ({ U with vm := s.vm } : State) locs mc ms := by
    subst hA
    obtain ⟨e1, e2⟩ := hsame
    rw [State.setFrames_setFrames] at e1
    have h2 : (T.setVm s.vm).sameButNew ({ U with vm := s.vm } : State) [] (0 + 1) (0 + 6) := ⟨e1, e2⟩
    have h3 := X.same.trans h2
    rw [List.append_nil] at h3
    exact h3.mono hc hs
  refine ⟨U, ?_, .threw T.heap.size, hrun, hend, Or.inr ⟨T.heap.size, rfl, cls, ce, locs, hx U hWs.alike f1 (fun q hq => f2 q hq (fun z hz => nomatch hz)), hce, hO.vm, hcl, hWs, hall, hf⟩⟩
  refine st1 _ ?_
  show Steps p.tables e below (T1.setTop { method := m, pc := pc + 3, locals := ls, stack := .ref T.heap.size :: rest, locked := none }) _
  jvm_step X₁.here [X₁.here.top, hexec, d3', Value.category]
  exact X₁.ldcStringW hexec (own := own) (text := text) (index := is) (a := sa) hown' hstr'.1 hstr'.2
    (g := { method := m, pc := pc + 4, locals := ls, stack := .ref T.heap.size :: .ref T.heap.size :: rest, locked := none }) rfl d4' _ hsteps
end Ends
section Bodies
variable {l : Launch}
theorem vx_ofW {y : MethodName} {ws ws' : List Cond} {rm : Room} {Pc : Array Value → State → Prop} {Qc : Array Value → State → Outcome → State → Prop} {XC : String → State → State → Prop} {mc ms : Nat} {free : Addr → Prop} {cc : ByteArray} {maxL : Nat} {ret : Option FieldType}
    (hy : plainName y.cls = true) (hw : ws = Cond.code y cc maxL ret :: ws')
    (body : ∀ p e s m args below meth c s₁, BodyLoose p l y (headSpec ws rm) cc maxL ret e s m args below meth c s₁ → c.maxLocals = maxL → (∀ x ∈ c.exceptionTable.toList, False) → Pc args s →
      W p l e (headSpec ws rm).room s m args below meth c s.heap [] 0 0 (vx_MQ below Qc XC args s mc ms free) (entryFrame m args maxL)) : vx_Met l y ws rm Pc Qc XC mc ms free := by
  refine MetFree.of_bodyS (code := cc) (maxLocals := maxL) (ret := ret) hy ?_ ?_
  · intro args s m h hn
    obtain ⟨meth, c, h1, h2, h3, h4, h5, h6, -, -⟩ := Cond.code_spec hn (atoms_spec (ws := ws) h _ (by rw [hw]; exact List.mem_cons_self))
    exact ⟨meth, c, h1, h2, h3, h4, h5, h6⟩
  · intro p e s m args below meth c s₁ B hml hP _
    have hh0 : s₁.heap = s.heap := by rw [B.state]; rfl
    have ht : ∀ x ∈ c.exceptionTable.toList, False := by
      obtain ⟨meth9, c9, h1, h2, -, -, -, -, h7, -⟩ := Cond.code_spec B.named (atoms_spec (ws := ws) B.pre _ (by rw [hw]; exact List.mem_cons_self))
      cases Option.some.inj (h1.symm.trans B.method)
      cases Option.some.inj (h2.symm.trans (Stand.of_body B).code)
      intro x hx
      rw [Array.isEmpty_iff.mp h7] at hx
      cases hx
    obtain ⟨t, a1, o, b1, b2, b3⟩ := body p e s m args below meth c s₁ B hml ht hP s₁ hh0 (Stand.of_body B)
    exact ⟨t, o, a1, b1, b2, b3⟩
/-- the table of a body with handlers -/
theorem vx_table {p : Program} {x y : MethodName} {S : Spec} {cc bytes : ByteArray} {maxL maxL' : Nat} {ret ret' : Option FieldType} {e : Env} {s s₁ : State} {m : MethodId} {args : Array Value} {below : List Frame} {meth : Method} {c : Code} {hh : List (Nat × Nat × Nat × Nat)}
    (B : BodyLoose p l y S cc maxL ret e s m args below meth c s₁) (h : (Cond.codeWith y bytes maxL' ret' hh).before args s = true) : c.exceptionTable.toList = tableOf hh := by
  obtain ⟨m9, meth9, c9, hn9, h1, h2, -, -, h6, -⟩ := Cond.codeWith_spec h
  cases Option.some.inj (hn9.symm.trans B.named)
  cases Option.some.inj (h1.symm.trans B.method)
  cases Option.some.inj (h2.symm.trans (Stand.of_body B).code)
  rw [← h6, table_eq]
end Bodies
end VXA
/-! ===== END ===== -/
/-! ===== BEGIN a static call of a method with an exception table ===== -/
section VXS
variable {p : Program} {l : Launch} {e : Env} {R : Room} {s : State} {m : MethodId} {args : Array Value} {below : List Frame} {meth : Method} {c : Code} {T : State} {H : Heap} {locs : List Loc} {cells slots : Nat}
abbrev vx_CSW (R : Room) (s : State) (args : Array Value) (own : String) (index : Nat) (y : MethodName) (bytes : ByteArray) (maxL : Nat) (ret : Option FieldType) (hh : List (Nat × Nat × Nat × Nat)) (ws : List Cond) (rm : Room) (mc ms n : Nat) : Prop :=
  (rm.cells = mc ∧ rm.slots = ms ∧ rm.frames + 1 ≤ R.frames ∧ 8 + (maxL + 11) + rm.locals ≤ R.locals ∧ (∀ w ∈ ws, ∀ (a' : Array Value) (U : State), s.WarmedH U.vm → w.before a' U = true) ∧ Cond.codeWith y bytes maxL ret hh ∈ ws) ∧
  (Cond.codeWith y bytes maxL ret hh).before args s = true ∧ (Cond.initialized y.cls).before args s = true ∧ (y.cls ≠ "java/lang/invoke/MethodHandle" ∧ y.cls ≠ "java/lang/invoke/VarHandle") ∧
  (∀ sig, parseMethodDescriptor y.desc = some sig → n = sig.parameters.length) ∧ (Cond.methodLink own index y).before args s = true ∧ (Cond.static y).before args s = true
theorem vx_cwSW {own : String} {index maxL mc ms : Nat} {y : MethodName} {bytes : ByteArray} {ret : Option FieldType} {hh : List (Nat × Nat × Nat × Nat)} {Ts ws ws' : List Cond} {rm : Room} (n : Nat) (ht : ∀ w ∈ Ts, w.before args s = true) (hT : GoodIn Ts (va_wsS own index y ws)) (hw : ws = Cond.codeWith y bytes maxL ret hh :: ws') (hrc : rm.cells = mc) (hrs : rm.slots = ms)
    (hd : y.cls ≠ "java/lang/invoke/MethodHandle" ∧ y.cls ≠ "java/lang/invoke/VarHandle" ∧ (parseMethodDescriptor y.desc).map (fun d => d.parameters.length) = some n) (hR : rm.frames + 1 ≤ R.frames ∧ 8 + (maxL + 11) + rm.locals ≤ R.locals) :
    vx_CSW R s args own index y bytes maxL ret hh ws rm mc ms n := by
  have ok : ∀ w ∈ va_wsS own index y ws, w.before args s = true := fun w h => ht w (hT w h).1
  have hG : GoodIn Ts ws := fun w h => hT w (by unfold va_wsS; exact List.mem_append_right _ h)
  have hc : Cond.codeWith y bytes maxL ret hh ∈ ws := by rw [hw]; exact List.mem_cons_self
  refine ⟨⟨hrc, hrs, hR.1, hR.2, pay_in ht hG, hc⟩, ht _ (hG _ hc).1, ok _ (by simp [va_wsS]), ⟨hd.1, hd.2.1⟩, fun sig h => ?_, ok _ (by simp [va_wsS]), ok _ (by simp [va_wsS])⟩
  have h2 := hd.2.2
  rw [h] at h2
  exact (Option.some.inj h2).symm
theorem vx_callSW (X : Stand p l e R s m args below meth c T locs cells slots) (hexec : p.tables.exec = Jvm.exec) {own : String} {index : Nat} {y : MethodName} {bytes : ByteArray} {maxL : Nat} {ret : Option FieldType} {hh : List (Nat × Nat × Nat × Nat)}
    (hown : s.vm.findClass own = some m.cls) (hlink : (Cond.methodLink own index y).before args s = true) (hstat : (Cond.static y).before args s = true) (hinit : (Cond.initialized y.cls).before args s = true)
    (hcode : (Cond.codeWith y bytes maxL ret hh).before args s = true) (hy : y.cls ≠ "java/lang/invoke/MethodHandle" ∧ y.cls ≠ "java/lang/invoke/VarHandle")
    {W9 : Nat} {Pre : Pt → Array Value → Prop} {Post : Pt → Array Value → Option Value → Pt → Prop} (hK : Back l R p e below s args y 3 W9 Pre Post)
    {g : JFrame} (hg : g.method = m) (hsize : g.locals.size = c.maxLocals) {argsL rest : List Value} (hlen : ∀ sig, parseMethodDescriptor y.desc = some sig → argsL.length = sig.parameters.length)
    (hstack : g.stack = argsL.reverse ++ rest) (hW : 2 * g.monitorRoom + (rest.map fun v => v.category).sum ≤ W9) (hdg : decode c.code g.pc = .ok (.invokestatic index, 3))
    (hpre : ∀ vm₁, s.WarmedH vm₁ → Pre ⟨T.setVm vm₁, locs, cells, slots⟩ argsL.toArray) :
    ∃ (v : Option Value) (vm₁ : Vm) (B : Pt), s.WarmedH vm₁ ∧ Stand p l e R s m args below meth c B.U B.locs B.cells B.slots ∧ Post ⟨T.setVm vm₁, locs, cells, slots⟩ argsL.toArray v B ∧
      ∀ target, Steps p.tables e below (B.U.setTop { g with pc := g.pc + 3, stack := v.toList ++ rest }) target → Steps p.tables e below (T.setTop g) target := by
  obtain ⟨mk, methM, cM, hnamed, hmethM, -, -, -, -, -, -, hsigM⟩ := Cond.codeWith_spec hcode
  have hstatic : methM.isStatic = true := Cond.static_spec hnamed hmethM hstat
  obtain ⟨kP, hkP, -⟩ := className_of_methodNamed hnamed
  have hinitP : kP.init = .initialized := Cond.initialized_spec (findClass_of_methodNamed hnamed) hkP hinit
  obtain ⟨vm₁, X₁, hstep₁⟩ := X.invokestatic hexec hown hlink hnamed hmethM hstatic hkP hinitP hy (g := g) hg (argsL := argsL) (rest := rest) (hlen _ hsigM) hstack hdg
  obtain ⟨v, B, X', hpost, hsteps⟩ := hK m meth c ⟨T.setVm vm₁, locs, cells, slots⟩ { g with stack := rest } (.invokestatic index) mk argsL.toArray X₁ hg hsize hdg hW (X₁.named hnamed) (hpre vm₁ X₁.warmed)
  exact ⟨v, vm₁, B, X₁.warmed, X', hpost, fun target h => hstep₁ _ fun acts => by rw [doInvoke_state]; exact hsteps.trans h⟩
theorem vx_runSW {y : MethodName} {bytes cc : ByteArray} {maxL nL mc ms n index : Nat} {ret : Option FieldType} {hh : List (Nat × Nat × Nat × Nat)} {ws : List Cond} {rm : Room} {Pc : Array Value → State → Prop} {Qc : Array Value → State → Outcome → State → Prop} {free : Addr → Prop} {Ts : List Cond} {own : String} {As rest : List Value} {g : JFrame}
    (S : CallFix p m c cc nL s args Ts own) (hM : Met l y ws rm Pc Qc mc ms free) (cw : vx_CSW R s args own index y bytes maxL ret hh ws rm mc ms n) (hp : PreS s H Pc As)
    (hg : g.method = m) (hn : As.length = n) (hsize : g.locals.size = nL) (hstack : g.stack = As.reverse ++ rest) (hW : 2 * g.monitorRoom + (rest.map fun v => v.category).sum ≤ 8) (hdg : decode cc g.pc = .ok (.invokestatic index, 3)) (hf : cells + mc ≤ R.cells ∧ slots + ms ≤ R.slots) :
    va_Run p l e R s m args below meth c H locs cells slots mc ms g rest (Qc As.toArray) (free) := by
  obtain ⟨⟨hrc, hrs, hfr, hlo, hws, hcw⟩, hcode, hini, hy, hlen, hl, hstt⟩ := cw
  have hK : Back l R p e below s args y 3 8 (PreOf R mc ms Pc) (PostOf Qc mc ms free) := va_backW (hh := hh) (bytes := bytes) (maxL := maxL) (ret := ret) hM hp.1 hrc hrs hfr hlo hws hcw (fun a' U hW => word_at hW (Or.inl (by first | rfl | simp [Cond.onTables, Cond.keeps, Cond.steady])) hini)
  obtain ⟨hx, hb, hml, ho, -⟩ := S
  intro T hT X
  obtain ⟨v, vm₁, ⟨U', l2, c2, s2⟩, hW₁, X', ⟨g', mk, t, L, e1, e2, hq, h1, hL, h2, h3⟩, st⟩ := vx_callSW X hx (hh := hh) (bytes := bytes) (maxL := maxL) (ret := ret) ho hl hstt hini hcode hy hK hg (hsize.trans hml.symm) (argsL := As) (rest := rest) (fun sig h => hn.trans (hlen sig h)) hstack hW (by rw [hb]; exact hdg)
    (fun vm₁ hW₁ => ⟨hf.1, hf.2, hp.2 (T.setVm vm₁) hT hW₁⟩)
  dsimp only [Pt.U, Pt.locs, Pt.cells, Pt.slots] at X' e1 e2 h1 h2 h3 st
  subst h1; subst h2; subst h3
  exact ⟨v, (T.setVm vm₁).calling g' mk As.toArray, t, U', L, hT, X', hL, e1, e2, hq, st⟩
/-- a thing of a world lies in the heap -/
theorem vx_lt {D : va_G} {cl : List vw_C} {ws : va_W} {H1 : Heap} (h : va_P D cl ws H1) {k : Nat} {q : Nat × va_E} (hk : ws[k]? = some q) : q.1 < H1.size := (h k q hk).lt
end VXS
/-! ===== END ===== -/
/-! ===== BEGIN methods with a table of their own: called by a name, returning or throwing ===== -/
section VXH
/-! vx_backW, vx_callVX, vx_callSX, vx_callVW, vx_runVW, vx_runVX, vx_runSX, vx_ofWH follow the same proofs as their sisters above (Free/Laws.lean, Shelf42/LK1.lean); vx_outP calls Shelf42/NT130.lean (outThrough). -/
section
variable {l : Launch} {R : Room} {p : Program} {e : Env} {below : List Frame} {s : State} {sargs : Array Value} {y : MethodName} {len W9 : Nat}
theorem vx_backW {ws : List Cond} {rm : Room} {Pc : Array Value → State → Prop} {Qc : Array Value → State → Outcome → State → Prop} {XC : String → State → State → Prop} {mc ms : Nat} {free : Addr → Prop} {bytes : ByteArray} {maxL : Nat} {ret : Option FieldType} {hh : List (Nat × Nat × Nat × Nat)}
    (hM : vx_Met l y ws rm Pc Qc XC mc ms free) (hblind : FrameBlind Pc) (hrc : rm.cells = mc) (hrs : rm.slots = ms)
    (hframes : rm.frames + 1 ≤ R.frames) (hlocals : W9 + (maxL + 11) + rm.locals ≤ R.locals)
    (hws : ∀ w ∈ ws, ∀ a' U, s.WarmedH U.vm → w.before a' U = true) (hcode : Cond.codeWith y bytes maxL ret hh ∈ ws) (hinit : ∀ a' U, s.WarmedH U.vm → (Cond.initialized y.cls).before a' U = true) :
    vx_Back l R p e below s sargs y len W9 (PreOf R mc ms Pc) (PostOf Qc mc ms free) (vx_Post XC mc ms free) := by
  intro m meth c A g ig mk a X hg hsize hdg hW hn hp
  have h1 : (headSpec ws rm).pre.before a A.U = true := atoms_intro fun w hw => hws w hw _ _ X.warmed
  have h2 : (Cond.codeWith y bytes maxL ret hh).before a A.U = true := hws _ hcode _ _ X.warmed
  have h3 : (Cond.initialized y.cls).before a A.U = true := hinit _ _ X.warmed
  have h4 : A.cells + (headSpec ws rm).room.cells ≤ R.cells := by rw [show (headSpec ws rm).room.cells = mc from hrc]; exact hp.1
  have h5 : A.slots + (headSpec ws rm).room.slots ≤ R.slots := by rw [show (headSpec ws rm).room.slots = ms from hrs]; exact hp.2.1
  have hPc : Pc a (A.U.calling g mk a) := hblind _ _ _ _ hp.2.2
  obtain ⟨U, Ls, c0, s0⟩ := A
  dsimp only [Pt.U, Pt.locs, Pt.cells, Pt.slots] at h1 h2 h3 h4 h5 X hn hPc ⊢
  obtain ⟨m9, methY, cY, hn9, hmY, hcY, -, hlY, -⟩ := Cond.codeWith_spec h2
  cases Option.some.inj (hn9.symm.trans hn)
  obtain ⟨kY, hkY, -⟩ := className_of_methodNamed hn
  have hinitY : kY.init = .initialized := Cond.initialized_spec (findClass_of_methodNamed hn) hkY h3
  have h : At U g.method c below := by rw [hg]; exact X.here
  have hlocals9 : W9 + (maxL + 11) + (headSpec ws rm).room.locals ≤ R.locals := hlocals
  have happ : (headSpec ws rm).appliesLoose y e.platform (U.calling g mk a) = true :=
    Spec.appliesLoose_calling (g := g) h hdg hn hkY hinitY
      (X.room_calling (g := g) (R' := (headSpec ws rm).room) hsize hmY hcY hframes (by rw [hlY]; omega) h4 h5) h1
  obtain ⟨mid, hmid⟩ := h.above
  have hfr : (U.setTop g).frames = (.java g :: mid) ++ below := by rw [State.frames_setTop' g h.top, hmid]; rfl
  obtain ⟨o, s₂, hsteps, -, hend, hq⟩ := Steps.callFree hM p X.admits X.cas X.clock (acts := []) hfr happ hPc trivial
  have hq' : vx_Q Qc XC mc ms free a (U.calling g mk a) o s₂ := hq
  rw [State.frames_setTop' g h.top] at hend
  obtain ⟨g₀, hg0⟩ := Option.isSome_iff_exists.mp h.top
  obtain ⟨r, hr⟩ := State.topJava?_eq_some.mp hg0
  have hr' : (({ U with heap := s₂.heap, slotsUsed := s₂.slotsUsed } : State).setVm s₂.vm).frames = .java g₀ :: r := hr
  rcases hq' with ⟨hqc, L, hfe, hL⟩ | ⟨q, rfl, E, ce, L, hx, hce, hcv, hcl, hW₂, hsm, hL⟩
  · obtain ⟨⟨v, rfl⟩, hW₂, e2, q2, q3, q4, q5, q6⟩ := id hfe
    have e3 : s₂ = ({ (U.calling g mk a).setFrames s₂.frames with heap := s₂.heap, slotsUsed := s₂.slotsUsed } : State).setVm s₂.vm := by
      have : s₂ = ({ s₂ with vm := (U.calling g mk a).vm } : State).setVm s₂.vm := rfl
      rw [e2] at this
      exact this
    obtain ⟨c₂, i₂, len₂, hc₂, hd₂, hf₂⟩ := hend
    have hW' : U.WarmedH s₂.vm := hW₂
    have hcc : c₂ = c := by
      have h1 : s₂.code? g.method = U.code? g.method := by
        rw [State.code?_eq, State.code?_eq, hW'.alike.method?]
      exact Option.some.inj (hc₂.symm.trans (h1.trans h.code))
    subst hcc
    have hlen : len₂ = len := by rw [hdg] at hd₂; cases hd₂; rfl
    subst hlen
    have hs₂ : s₂ = (({ U with heap := s₂.heap, slotsUsed := s₂.slotsUsed } : State).setVm s₂.vm).setTop { g with pc := g.pc + len₂, stack := v.toList ++ g.stack } := by
      refine e3.trans ?_
      rw [hf₂, State.calling_eq h.top, State.setFrames_setFrames, State.setTop_of_frames _ hr', hr]
      rfl
    have hsame : U.sameButNew ({ U with heap := s₂.heap, slotsUsed := s₂.slotsUsed } : State) L mc ms := by
      refine ⟨?_, q2, q3, q4, q5, q6⟩
      obtain ⟨t, ht, -⟩ := State.frames_cons hr
      show ({ U with heap := s₂.heap, slotsUsed := s₂.slotsUsed } : State) = { U.setFrames U.frames with heap := s₂.heap, slotsUsed := s₂.slotsUsed }
      rw [State.setFrames_self ht]
    subst hg
    refine Or.inl ⟨v, ⟨(({ U with heap := s₂.heap, slotsUsed := s₂.slotsUsed } : State).setVm s₂.vm), Ls ++ L, c0 + mc, s0 + ms⟩,
      ⟨X.admits, X.cas, X.clock, X.frames, X.room, X.hears, X.method, X.code, (X.here.setHeapUsed s₂.heap s₂.slotsUsed).setVm hW'.alike, X.tail, State.WarmedH.trans X.warmed hW', X.limits, X.bytes, X.same.trans (hsame.setVm s.vm)⟩,
      ⟨g, mk, s₂, L, rfl, rfl, hqc, rfl, hL, rfl, rfl⟩, ?_⟩
    show Steps p.tables e below _ ((({ U with heap := s₂.heap, slotsUsed := s₂.slotsUsed } : State).setVm s₂.vm).setTop { g with pc := g.pc + len₂, stack := v.toList ++ g.stack })
    rw [← hs₂]
    exact hsteps
  · obtain ⟨e2, q2, q3, q4, q5, q6⟩ := id hsm
    have e3 : s₂ = ({ (U.calling g mk a).setFrames s₂.frames with heap := s₂.heap, slotsUsed := s₂.slotsUsed } : State).setVm s₂.vm := by
      have : s₂ = ({ s₂ with vm := (U.calling g mk a).vm } : State).setVm s₂.vm := rfl
      rw [e2] at this
      exact this
    have hf₂ : s₂.frames = .throwing q :: .java g :: U.frames.tail := hend
    have hW' : U.WarmedH s₂.vm := hW₂
    have hs₂ : s₂ = ((({ U with heap := s₂.heap, slotsUsed := s₂.slotsUsed } : State).setVm s₂.vm).setTop g).pushFrame (.throwing q) := by
      refine e3.trans ?_
      rw [hf₂, State.calling_eq h.top, State.setFrames_setFrames, State.pushFrame, State.frames_setTop _ hr', State.setTop_of_frames _ hr', State.setFrames_setFrames, hr]
      rfl
    have hsame : U.sameButNew ({ U with heap := s₂.heap, slotsUsed := s₂.slotsUsed } : State) L mc ms := by
      refine ⟨?_, q2, q3, q4, q5, q6⟩
      obtain ⟨t, ht, -⟩ := State.frames_cons hr
      show ({ U with heap := s₂.heap, slotsUsed := s₂.slotsUsed } : State) = { U.setFrames U.frames with heap := s₂.heap, slotsUsed := s₂.slotsUsed }
      rw [State.setFrames_self ht]
    subst hg
    refine Or.inr ⟨q, ⟨(({ U with heap := s₂.heap, slotsUsed := s₂.slotsUsed } : State).setVm s₂.vm), Ls ++ L, c0 + mc, s0 + ms⟩,
      ⟨X.admits, X.cas, X.clock, X.frames, X.room, X.hears, X.method, X.code, (X.here.setHeapUsed s₂.heap s₂.slotsUsed).setVm hW'.alike, X.tail, State.WarmedH.trans X.warmed hW', X.limits, X.bytes, X.same.trans (hsame.setVm s.vm)⟩,
      ⟨g, mk, s₂, L, E, ce, rfl, rfl, hx, hce, hcv, hcl, rfl, hL, rfl, rfl⟩, ?_⟩
    show Steps p.tables e below _ (((({ U with heap := s₂.heap, slotsUsed := s₂.slotsUsed } : State).setVm s₂.vm).setTop g).pushFrame (.throwing q))
    rw [← hs₂]
    exact hsteps
end
variable {p : Program} {l : Launch} {e : Env} {R : Room} {s : State} {m : MethodId} {args : Array Value} {below : List Frame} {meth : Method} {c : Code} {T : State} {H : Heap} {locs : List Loc} {cells slots : Nat}
theorem vx_callVX (X : Stand p l e R s m args below meth c T locs cells slots) (hexec : p.tables.exec = Jvm.exec) {own C : String} {index : Nat} {y : MethodName} {bytes : ByteArray} {maxL : Nat} {ret : Option FieldType} {hh : List (Nat × Nat × Nat × Nat)}
    (hown : s.vm.findClass own = some m.cls) (hlink : (Cond.methodLink own index y).before args s = true) (hinst : (Cond.instanceMethod y).before args s = true) (hsel : (Cond.selects C y y).before args s = true)
    (hcode : (Cond.codeWith y bytes maxL ret hh).before args s = true) (hy : y.cls ≠ "java/lang/invoke/MethodHandle" ∧ y.cls ≠ "java/lang/invoke/VarHandle")
    {W9 : Nat} {Pre : Pt → Array Value → Prop} {Post : Pt → Array Value → Option Value → Pt → Prop} {PostX : Pt → Array Value → Addr → Pt → Prop} (hK : vx_Back l R p e below s args y 3 W9 Pre Post PostX)
    {b : Addr} {cellB : Cell} (hcell : T.heap[b]? = some cellB) (hobj : cellB.vm.isStatics = false) (hcls : s.vm.findClass C = some cellB.cls)
    {g : JFrame} (hg : g.method = m) (hsize : g.locals.size = c.maxLocals) {argsL rest : List Value} (hlen : ∀ sig, parseMethodDescriptor y.desc = some sig → argsL.length = sig.parameters.length)
    (hstack : g.stack = argsL.reverse ++ .ref b :: rest) (hW : 2 * g.monitorRoom + (rest.map fun v => v.category).sum ≤ W9) (hdg : decode c.code g.pc = .ok (.invokevirtual index, 3))
    (hpre : ∀ vm₁, s.WarmedH vm₁ → Pre ⟨T.setVm vm₁, locs, cells, slots⟩ (Value.ref b :: argsL).toArray) :
    (∃ (v : Option Value) (vm₁ : Vm) (B : Pt), s.WarmedH vm₁ ∧ Stand p l e R s m args below meth c B.U B.locs B.cells B.slots ∧ Post ⟨T.setVm vm₁, locs, cells, slots⟩ (Value.ref b :: argsL).toArray v B ∧
      ∀ target, Steps p.tables e below (B.U.setTop { g with pc := g.pc + 3, stack := v.toList ++ rest }) target → Steps p.tables e below (T.setTop g) target) ∨
    (∃ (q : Addr) (vm₁ : Vm) (B : Pt), s.WarmedH vm₁ ∧ Stand p l e R s m args below meth c B.U B.locs B.cells B.slots ∧ PostX ⟨T.setVm vm₁, locs, cells, slots⟩ (Value.ref b :: argsL).toArray q B ∧
      Steps p.tables e below (T.setTop g) ((B.U.setTop { g with stack := rest }).pushFrame (.throwing q))) := by
  obtain ⟨mk, methM, hnamed, hmethM, hstM, habM⟩ := Cond.instanceMethod_spec hinst
  obtain ⟨m8, methM', cM, hn8, hmethM', -, -, -, -, -, -, hsigM⟩ := Cond.codeWith_spec hcode
  cases Option.some.inj (hn8.symm.trans hnamed)
  cases hmethM.symm.trans hmethM'
  obtain ⟨c2, r2, m2, q1, q2, q3, q4, kP, hkP, hkPi⟩ := Cond.selects_spec hsel
  cases hcls.symm.trans q1
  cases (State.methodFound?_of_named hnamed hy).symm.trans q2
  cases hnamed.symm.trans q3
  have hselP : selectMethod e.platform s.vm cellB.cls mk = .method mk := by rw [Launch.admits_selectMethod X.admits]; exact q4
  obtain ⟨vm₁, X₁, hstep₁⟩ := X.invokevirtual hexec hown hlink hnamed hmethM hstM hkP hkPi hy (a := b) (cell := cellB) hcell
    (fun z h => by rw [h] at hobj; cases hobj) hselP hmethM habM hkP hkPi (g := g) hg (argsL := argsL) (rest := rest) (hlen _ hsigM) hstack hdg
  rcases hK m meth c ⟨T.setVm vm₁, locs, cells, slots⟩ { g with stack := rest } (.invokevirtual index) mk (Value.ref b :: argsL).toArray X₁ hg hsize hdg hW (X₁.named hnamed) (hpre vm₁ X₁.warmed) with ⟨v, B, X', hpost, hsteps⟩ | ⟨q, B, X', hpost, hsteps⟩
  · exact Or.inl ⟨v, vm₁, B, X₁.warmed, X', hpost, fun target h => hstep₁ _ fun acts => by rw [doInvoke_state]; exact hsteps.trans h⟩
  · exact Or.inr ⟨q, vm₁, B, X₁.warmed, X', hpost, hstep₁ _ fun acts => by rw [doInvoke_state]; exact hsteps⟩
theorem vx_callSX (X : Stand p l e R s m args below meth c T locs cells slots) (hexec : p.tables.exec = Jvm.exec) {own : String} {index : Nat} {y : MethodName} {bytes : ByteArray} {maxL : Nat} {ret : Option FieldType} {hh : List (Nat × Nat × Nat × Nat)}
    (hown : s.vm.findClass own = some m.cls) (hlink : (Cond.methodLink own index y).before args s = true) (hstat : (Cond.static y).before args s = true) (hinit : (Cond.initialized y.cls).before args s = true)
    (hcode : (Cond.codeWith y bytes maxL ret hh).before args s = true) (hy : y.cls ≠ "java/lang/invoke/MethodHandle" ∧ y.cls ≠ "java/lang/invoke/VarHandle")
    {W9 : Nat} {Pre : Pt → Array Value → Prop} {Post : Pt → Array Value → Option Value → Pt → Prop} {PostX : Pt → Array Value → Addr → Pt → Prop} (hK : vx_Back l R p e below s args y 3 W9 Pre Post PostX)
    {g : JFrame} (hg : g.method = m) (hsize : g.locals.size = c.maxLocals) {argsL rest : List Value} (hlen : ∀ sig, parseMethodDescriptor y.desc = some sig → argsL.length = sig.parameters.length)
    (hstack : g.stack = argsL.reverse ++ rest) (hW : 2 * g.monitorRoom + (rest.map fun v => v.category).sum ≤ W9) (hdg : decode c.code g.pc = .ok (.invokestatic index, 3))
    (hpre : ∀ vm₁, s.WarmedH vm₁ → Pre ⟨T.setVm vm₁, locs, cells, slots⟩ argsL.toArray) :
    (∃ (v : Option Value) (vm₁ : Vm) (B : Pt), s.WarmedH vm₁ ∧ Stand p l e R s m args below meth c B.U B.locs B.cells B.slots ∧ Post ⟨T.setVm vm₁, locs, cells, slots⟩ argsL.toArray v B ∧
      ∀ target, Steps p.tables e below (B.U.setTop { g with pc := g.pc + 3, stack := v.toList ++ rest }) target → Steps p.tables e below (T.setTop g) target) ∨
    (∃ (q : Addr) (vm₁ : Vm) (B : Pt), s.WarmedH vm₁ ∧ Stand p l e R s m args below meth c B.U B.locs B.cells B.slots ∧ PostX ⟨T.setVm vm₁, locs, cells, slots⟩ argsL.toArray q B ∧
      Steps p.tables e below (T.setTop g) ((B.U.setTop { g with stack := rest }).pushFrame (.throwing q))) := by
  obtain ⟨mk, methM, cM, hnamed, hmethM, -, -, -, -, -, -, hsigM⟩ := Cond.codeWith_spec hcode
  have hstatic : methM.isStatic = true := Cond.static_spec hnamed hmethM hstat
  obtain ⟨kP, hkP, -⟩ := className_of_methodNamed hnamed
  have hinitP : kP.init = .initialized := Cond.initialized_spec (findClass_of_methodNamed hnamed) hkP hinit
  obtain ⟨vm₁, X₁, hstep₁⟩ := X.invokestatic hexec hown hlink hnamed hmethM hstatic hkP hinitP hy (g := g) hg (argsL := argsL) (rest := rest) (hlen _ hsigM) hstack hdg
  rcases hK m meth c ⟨T.setVm vm₁, locs, cells, slots⟩ { g with stack := rest } (.invokestatic index) mk argsL.toArray X₁ hg hsize hdg hW (X₁.named hnamed) (hpre vm₁ X₁.warmed) with ⟨v, B, X', hpost, hsteps⟩ | ⟨q, B, X', hpost, hsteps⟩
  · exact Or.inl ⟨v, vm₁, B, X₁.warmed, X', hpost, fun target h => hstep₁ _ fun acts => by rw [doInvoke_state]; exact hsteps.trans h⟩
  · exact Or.inr ⟨q, vm₁, B, X₁.warmed, X', hpost, hstep₁ _ fun acts => by rw [doInvoke_state]; exact hsteps⟩
theorem vx_callVW (X : Stand p l e R s m args below meth c T locs cells slots) (hexec : p.tables.exec = Jvm.exec) {own C : String} {index : Nat} {y : MethodName} {bytes : ByteArray} {maxL : Nat} {ret : Option FieldType} {hh : List (Nat × Nat × Nat × Nat)}
    (hown : s.vm.findClass own = some m.cls) (hlink : (Cond.methodLink own index y).before args s = true) (hinst : (Cond.instanceMethod y).before args s = true) (hsel : (Cond.selects C y y).before args s = true)
    (hcode : (Cond.codeWith y bytes maxL ret hh).before args s = true) (hy : y.cls ≠ "java/lang/invoke/MethodHandle" ∧ y.cls ≠ "java/lang/invoke/VarHandle")
    {W9 : Nat} {Pre : Pt → Array Value → Prop} {Post : Pt → Array Value → Option Value → Pt → Prop} (hK : Back l R p e below s args y 3 W9 Pre Post)
    {b : Addr} {cellB : Cell} (hcell : T.heap[b]? = some cellB) (hobj : cellB.vm.isStatics = false) (hcls : s.vm.findClass C = some cellB.cls)
    {g : JFrame} (hg : g.method = m) (hsize : g.locals.size = c.maxLocals) {argsL rest : List Value} (hlen : ∀ sig, parseMethodDescriptor y.desc = some sig → argsL.length = sig.parameters.length)
    (hstack : g.stack = argsL.reverse ++ .ref b :: rest) (hW : 2 * g.monitorRoom + (rest.map fun v => v.category).sum ≤ W9) (hdg : decode c.code g.pc = .ok (.invokevirtual index, 3))
    (hpre : ∀ vm₁, s.WarmedH vm₁ → Pre ⟨T.setVm vm₁, locs, cells, slots⟩ (Value.ref b :: argsL).toArray) :
    ∃ (v : Option Value) (vm₁ : Vm) (B : Pt), s.WarmedH vm₁ ∧ Stand p l e R s m args below meth c B.U B.locs B.cells B.slots ∧ Post ⟨T.setVm vm₁, locs, cells, slots⟩ (Value.ref b :: argsL).toArray v B ∧
      ∀ target, Steps p.tables e below (B.U.setTop { g with pc := g.pc + 3, stack := v.toList ++ rest }) target → Steps p.tables e below (T.setTop g) target := by
  obtain ⟨mk, methM, hnamed, hmethM, hstM, habM⟩ := Cond.instanceMethod_spec hinst
  obtain ⟨m8, methM', cM, hn8, hmethM', -, -, -, -, -, -, hsigM⟩ := Cond.codeWith_spec hcode
  cases Option.some.inj (hn8.symm.trans hnamed)
  cases hmethM.symm.trans hmethM'
  obtain ⟨c2, r2, m2, q1, q2, q3, q4, kP, hkP, hkPi⟩ := Cond.selects_spec hsel
  cases hcls.symm.trans q1
  cases (State.methodFound?_of_named hnamed hy).symm.trans q2
  cases hnamed.symm.trans q3
  have hselP : selectMethod e.platform s.vm cellB.cls mk = .method mk := by rw [Launch.admits_selectMethod X.admits]; exact q4
  obtain ⟨vm₁, X₁, hstep₁⟩ := X.invokevirtual hexec hown hlink hnamed hmethM hstM hkP hkPi hy (a := b) (cell := cellB) hcell
    (fun z h => by rw [h] at hobj; cases hobj) hselP hmethM habM hkP hkPi (g := g) hg (argsL := argsL) (rest := rest) (hlen _ hsigM) hstack hdg
  obtain ⟨v, B, X', hpost, hsteps⟩ := hK m meth c ⟨T.setVm vm₁, locs, cells, slots⟩ { g with stack := rest } (.invokevirtual index) mk (Value.ref b :: argsL).toArray X₁ hg hsize hdg hW (X₁.named hnamed) (hpre vm₁ X₁.warmed)
  exact ⟨v, vm₁, B, X₁.warmed, X', hpost, fun target h => hstep₁ _ fun acts => by rw [doInvoke_state]; exact hsteps.trans h⟩
abbrev vx_CVW (R : Room) (s : State) (args : Array Value) (own C : String) (index : Nat) (y : MethodName) (bytes : ByteArray) (maxL : Nat) (ret : Option FieldType) (hh : List (Nat × Nat × Nat × Nat)) (ws : List Cond) (rm : Room) (mc ms n : Nat) : Prop :=
  (rm.cells = mc ∧ rm.slots = ms ∧ rm.frames + 1 ≤ R.frames ∧ 8 + (maxL + 11) + rm.locals ≤ R.locals ∧ (∀ w ∈ ws, ∀ (a' : Array Value) (U : State), s.WarmedH U.vm → w.before a' U = true) ∧ Cond.codeWith y bytes maxL ret hh ∈ ws) ∧
  (Cond.codeWith y bytes maxL ret hh).before args s = true ∧ (Cond.initialized y.cls).before args s = true ∧ (y.cls ≠ "java/lang/invoke/MethodHandle" ∧ y.cls ≠ "java/lang/invoke/VarHandle") ∧
  (∀ sig, parseMethodDescriptor y.desc = some sig → n = sig.parameters.length) ∧ (Cond.methodLink own index y).before args s = true ∧ (Cond.instanceMethod y).before args s = true ∧ (Cond.selects C y y).before args s = true
theorem vx_cwVW {own C : String} {index maxL mc ms : Nat} {y : MethodName} {bytes : ByteArray} {ret : Option FieldType} {hh : List (Nat × Nat × Nat × Nat)} {Ts ws ws' : List Cond} {rm : Room} (n : Nat) (ht : ∀ w ∈ Ts, w.before args s = true) (hT : GoodIn Ts (wsV own index C y ws)) (hw : ws = Cond.codeWith y bytes maxL ret hh :: ws') (hrc : rm.cells = mc) (hrs : rm.slots = ms)
    (hd : y.cls = C ∧ y.cls ≠ "java/lang/invoke/MethodHandle" ∧ y.cls ≠ "java/lang/invoke/VarHandle" ∧ (parseMethodDescriptor y.desc).map (fun d => d.parameters.length) = some n) (hR : rm.frames + 1 ≤ R.frames ∧ 8 + (maxL + 11) + rm.locals ≤ R.locals) :
    vx_CVW R s args own C index y bytes maxL ret hh ws rm mc ms n := by
  obtain ⟨hC, hd⟩ := hd
  subst hC
  have ok : ∀ w ∈ wsV own index y.cls y ws, w.before args s = true := fun w h => ht w (hT w h).1
  have hG : GoodIn Ts ws := fun w h => hT w (by unfold wsV; exact List.mem_append_right _ h)
  have hc : Cond.codeWith y bytes maxL ret hh ∈ ws := by rw [hw]; exact List.mem_cons_self
  refine ⟨⟨hrc, hrs, hR.1, hR.2, pay_in ht hG, hc⟩, ht _ (hG _ hc).1, ok _ (by simp [wsV]), ⟨hd.1, hd.2.1⟩, fun sig h => ?_, ok _ (by simp [wsV]), ok _ (by simp [wsV]), ok _ (by simp [wsV])⟩
  have h2 := hd.2.2
  rw [h] at h2
  exact (Option.some.inj h2).symm
theorem vx_runVW {y : MethodName} {bytes cc : ByteArray} {maxL nL mc ms n index : Nat} {ret : Option FieldType} {hh : List (Nat × Nat × Nat × Nat)} {ws : List Cond} {rm : Room} {Pc : Array Value → State → Prop} {Qc : Array Value → State → Outcome → State → Prop} {free : Addr → Prop} {Ts : List Cond} {own C : String} {b : Addr} {As rest : List Value} {g : JFrame}
    (S : CallFix p m c cc nL s args Ts own) (hM : Met l y ws rm Pc Qc mc ms free) (cw : vx_CVW R s args own C index y bytes maxL ret hh ws rm mc ms n) (hp : PreV s H C b Pc As)
    (hg : g.method = m) (hn : As.length = n) (hsize : g.locals.size = nL) (hstack : g.stack = As.reverse ++ .ref b :: rest) (hW : 2 * g.monitorRoom + (rest.map fun v => v.category).sum ≤ 8) (hdg : decode cc g.pc = .ok (.invokevirtual index, 3)) (hf : cells + mc ≤ R.cells ∧ slots + ms ≤ R.slots) :
    va_Run p l e R s m args below meth c H locs cells slots mc ms g rest (Qc (Value.ref b :: As).toArray) free := by
  obtain ⟨⟨hrc, hrs, hfr, hlo, hws, hcw⟩, hcode, hini, hy, hlen, hl, hin, hse⟩ := cw
  have hK : Back l R p e below s args y 3 8 (PreOf R mc ms Pc) (PostOf Qc mc ms free) := va_backW (hh := hh) (bytes := bytes) (maxL := maxL) (ret := ret) hM hp.1 hrc hrs hfr hlo hws hcw (fun a' U hW => word_at hW (Or.inl (by first | rfl | simp [Cond.onTables, Cond.keeps, Cond.steady])) hini)
  obtain ⟨hx, hb, hml, ho, -⟩ := S
  obtain ⟨-, ⟨cellB, hcB, hoB, hclB⟩, hPc⟩ := hp
  intro T hT X
  obtain ⟨v, vm₁, ⟨U', l2, c2, s2⟩, hW₁, X', ⟨g', mk, t, L, e1, e2, hq, h1, hL, h2, h3⟩, st⟩ := vx_callVW X hx (C := C) (hh := hh) (bytes := bytes) (maxL := maxL) (ret := ret) ho hl hin hse hcode hy hK (by rw [hT]; exact hcB) hoB hclB hg (hsize.trans hml.symm) (argsL := As) (rest := rest) (fun sig h => hn.trans (hlen sig h)) hstack hW (by rw [hb]; exact hdg)
    (fun vm₁ hW₁ => ⟨hf.1, hf.2, hPc (T.setVm vm₁) hT hW₁⟩)
  dsimp only [Pt.U, Pt.locs, Pt.cells, Pt.slots] at X' e1 e2 h1 h2 h3 st
  subst h1; subst h2; subst h3
  exact ⟨v, (T.setVm vm₁).calling g' mk (Value.ref b :: As).toArray, t, U', L, hT, X', hL, e1, e2, hq, st⟩
section
variable {y : MethodName} {bytes cc : ByteArray} {maxL nL mc ms n index : Nat} {ret : Option FieldType} {ws : List Cond} {rm : Room} {Pc : Array Value → State → Prop} {Qc : Array Value → State → Outcome → State → Prop} {XC : String → State → State → Prop} {free : Addr → Prop} {Ts : List Cond} {own C : String} {b : Addr} {As rest : List Value} {g : JFrame}
theorem vx_runVX {hh : List (Nat × Nat × Nat × Nat)} (S : CallFix p m c cc nL s args Ts own) (hM : vx_Met l y ws rm Pc Qc XC mc ms free) (cw : vx_CVW R s args own C index y bytes maxL ret hh ws rm mc ms n) (hp : PreV s H C b Pc As)
    (hg : g.method = m) (hn : As.length = n) (hsize : g.locals.size = nL) (hstack : g.stack = As.reverse ++ .ref b :: rest) (hW : 2 * g.monitorRoom + (rest.map fun v => v.category).sum ≤ 8) (hdg : decode cc g.pc = .ok (.invokevirtual index, 3)) (hf : cells + mc ≤ R.cells ∧ slots + ms ≤ R.slots) :
    vx_Run p l e R s m args below meth c H locs cells slots mc ms g rest (Qc (Value.ref b :: As).toArray) XC free := by
  obtain ⟨⟨hrc, hrs, hfr, hlo, hws, hcw⟩, hcode, hini, hy, hlen, hl, hin, hse⟩ := cw
  have hK : vx_Back l R p e below s args y 3 8 (PreOf R mc ms Pc) (PostOf Qc mc ms free) (vx_Post XC mc ms free) := vx_backW (hh := hh) (bytes := bytes) (maxL := maxL) (ret := ret) hM hp.1 hrc hrs hfr hlo hws hcw (fun a' U hW => word_at hW (Or.inl (by first | rfl | simp [Cond.onTables, Cond.keeps, Cond.steady])) hini)
  obtain ⟨hx, hb, hml, ho, -⟩ := S
  obtain ⟨-, ⟨cellB, hcB, hoB, hclB⟩, hPc⟩ := hp
  intro T hT X
  rcases vx_callVX X hx (C := C) (hh := hh) (bytes := bytes) (maxL := maxL) (ret := ret) ho hl hin hse hcode hy hK (by rw [hT]; exact hcB) hoB hclB hg (hsize.trans hml.symm) (argsL := As) (rest := rest) (fun sig h => hn.trans (hlen sig h)) hstack hW (by rw [hb]; exact hdg)
    (fun vm₁ hW₁ => ⟨hf.1, hf.2, hPc (T.setVm vm₁) hT hW₁⟩) with ⟨v, vm₁, ⟨U', l2, c2, s2⟩, hW₁, X', ⟨g', mk, t, L, e1, e2, hq, h1, hL, h2, h3⟩, st⟩ | ⟨q, vm₁, ⟨U', l2, c2, s2⟩, hW₁, X', ⟨g', mk, t, L, E, ce, e1, e2, hq, hce, hcv, hcl, h1, hL, h2, h3⟩, st⟩
  · dsimp only [Pt.U, Pt.locs, Pt.cells, Pt.slots] at X' e1 e2 h1 h2 h3 st
    subst h1; subst h2; subst h3
    exact Or.inl ⟨v, (T.setVm vm₁).calling g' mk (Value.ref b :: As).toArray, t, U', L, hT, X', hL, e1, e2, hq, st⟩
  · dsimp only [Pt.U, Pt.locs, Pt.cells, Pt.slots] at X' e1 e2 h1 h2 h3 st hcl
    subst h1; subst h2; subst h3
    exact Or.inr ⟨q, (T.setVm vm₁).calling g' mk (Value.ref b :: As).toArray, t, U', L, E, ce, hT, X', hL, e1, e2, hq, hce, hcv, vx_cls hW₁ hcl, st⟩
theorem vx_runSX {hh : List (Nat × Nat × Nat × Nat)} (S : CallFix p m c cc nL s args Ts own) (hM : vx_Met l y ws rm Pc Qc XC mc ms free) (cw : vx_CSW R s args own index y bytes maxL ret hh ws rm mc ms n) (hp : PreS s H Pc As)
    (hg : g.method = m) (hn : As.length = n) (hsize : g.locals.size = nL) (hstack : g.stack = As.reverse ++ rest) (hW : 2 * g.monitorRoom + (rest.map fun v => v.category).sum ≤ 8) (hdg : decode cc g.pc = .ok (.invokestatic index, 3)) (hf : cells + mc ≤ R.cells ∧ slots + ms ≤ R.slots) :
    vx_Run p l e R s m args below meth c H locs cells slots mc ms g rest (Qc As.toArray) XC free := by
  obtain ⟨⟨hrc, hrs, hfr, hlo, hws, hcw⟩, hcode, hini, hy, hlen, hl, hstt⟩ := cw
  have hK : vx_Back l R p e below s args y 3 8 (PreOf R mc ms Pc) (PostOf Qc mc ms free) (vx_Post XC mc ms free) := vx_backW (hh := hh) (bytes := bytes) (maxL := maxL) (ret := ret) hM hp.1 hrc hrs hfr hlo hws hcw (fun a' U hW => word_at hW (Or.inl (by first | rfl | simp [Cond.onTables, Cond.keeps, Cond.steady])) hini)
  obtain ⟨hx, hb, hml, ho, -⟩ := S
  intro T hT X
  rcases vx_callSX X hx (hh := hh) (bytes := bytes) (maxL := maxL) (ret := ret) ho hl hstt hini hcode hy hK hg (hsize.trans hml.symm) (argsL := As) (rest := rest) (fun sig h => hn.trans (hlen sig h)) hstack hW (by rw [hb]; exact hdg)
    (fun vm₁ hW₁ => ⟨hf.1, hf.2, hp.2 (T.setVm vm₁) hT hW₁⟩) with ⟨v, vm₁, ⟨U', l2, c2, s2⟩, hW₁, X', ⟨g', mk, t, L, e1, e2, hq, h1, hL, h2, h3⟩, st⟩ | ⟨q, vm₁, ⟨U', l2, c2, s2⟩, hW₁, X', ⟨g', mk, t, L, E, ce, e1, e2, hq, hce, hcv, hcl, h1, hL, h2, h3⟩, st⟩
  · dsimp only [Pt.U, Pt.locs, Pt.cells, Pt.slots] at X' e1 e2 h1 h2 h3 st
    subst h1; subst h2; subst h3
    exact Or.inl ⟨v, (T.setVm vm₁).calling g' mk As.toArray, t, U', L, hT, X', hL, e1, e2, hq, st⟩
  · dsimp only [Pt.U, Pt.locs, Pt.cells, Pt.slots] at X' e1 e2 h1 h2 h3 st hcl
    subst h1; subst h2; subst h3
    exact Or.inr ⟨q, (T.setVm vm₁).calling g' mk As.toArray, t, U', L, E, ce, hT, X', hL, e1, e2, hq, hce, hcv, vx_cls hW₁ hcl, st⟩
end
end VXH
theorem vx_ofWH {l : Launch} {y : MethodName} {ws ws' : List Cond} {rm : Room} {Pc : Array Value → State → Prop} {Qc : Array Value → State → Outcome → State → Prop} {XC : String → State → State → Prop} {mc ms : Nat} {free : Addr → Prop} {cc : ByteArray} {maxL : Nat} {ret : Option FieldType} {hh : List (Nat × Nat × Nat × Nat)}
    (hy : plainName y.cls = true) (hw : ws = Cond.codeWith y cc maxL ret hh :: ws')
    (body : ∀ p e s m args below meth c s₁, BodyLoose p l y (headSpec ws rm) cc maxL ret e s m args below meth c s₁ → c.maxLocals = maxL → Pc args s →
      W p l e (headSpec ws rm).room s m args below meth c s.heap [] 0 0 (vx_MQ below Qc XC args s mc ms free) (entryFrame m args maxL)) : vx_Met l y ws rm Pc Qc XC mc ms free := by
  refine MetFree.of_bodyS (code := cc) (maxLocals := maxL) (ret := ret) hy ?_ ?_
  · intro args s m h hn
    obtain ⟨m9, meth, c, hn9, h1, h2, h3, h4, -, h5, h6, -⟩ := Cond.codeWith_spec (atoms_spec (ws := ws) h _ (by rw [hw]; exact List.mem_cons_self))
    cases hn.symm.trans hn9
    exact ⟨meth, c, h1, h2, h3, h4, h5, h6⟩
  · intro p e s m args below meth c s₁ B hml hP _
    have hh0 : s₁.heap = s.heap := by rw [B.state]; rfl
    obtain ⟨t, a1, o, b1, b2, b3⟩ := body p e s m args below meth c s₁ B hml hP s₁ hh0 (Stand.of_body B)
    exact ⟨t, o, a1, b1, b2, b3⟩
/-! ===== END ===== -/
end
section
def RX0 : String := "GraphLog$Chunks"
def TX0 : u_T := fun k => match k with
  | 0 => ("GraphLog$Chunks", "numbers", "[I", true)
  | 1 => ("GraphLog$Chunks", "names", "[I", true)
  | 2 => ("GraphLog$Chunks", "edges", "[J", true)
  | _ => ("GraphLog$Chunks", "count", "I", false)
def tyX0 : Nat → FieldType := fun k => match k with
  | 0 => .array .int
  | 1 => .array .int
  | 2 => .array .long
  | _ => .int
theorem nmX0 : ∀ a, a < 4 → ∀ b, b < 4 → a ≠ b → (TX0 a).2.1 ≠ (TX0 b).2.1 := by decide +kernel
theorem tyX0_ok : ∀ k, k < 4 → parseFieldDescriptor (TX0 k).2.2.1 = some (tyX0 k) := by decide +kernel
abbrev cX0_init : ByteArray := prog_2_method_1_code
def yX0_init : MethodName := ⟨RX0, "<init>", "()V"⟩
abbrev cX0_forget : ByteArray := prog_2_method_2_code
def yX0_forget : MethodName := ⟨RX0, "forget", "()V"⟩
abbrev cX0_isSlot : ByteArray := prog_2_method_3_code
def yX0_isSlot : MethodName := ⟨RX0, "isSlot", "(I)Z"⟩
abbrev cX0_find : ByteArray := prog_2_method_4_code
def yX0_find : MethodName := ⟨RX0, "find", "(I)I"⟩
abbrev cX0_numberIn : ByteArray := prog_2_method_5_code
def yX0_numberIn : MethodName := ⟨RX0, "numberIn", "(I)I"⟩
abbrev cX0_namesOf : ByteArray := prog_2_method_6_code
def yX0_namesOf : MethodName := ⟨RX0, "namesOf", "(I)I"⟩
abbrev cX0_addName : ByteArray := prog_2_method_7_code
def yX0_addName : MethodName := ⟨RX0, "addName", "(II)V"⟩
abbrev cX0_edgesOf : ByteArray := prog_2_method_8_code
def yX0_edgesOf : MethodName := ⟨RX0, "edgesOf", "(II)J"⟩
abbrev cX0_take : ByteArray := prog_2_method_9_code
def yX0_take : MethodName := ⟨RX0, "take", "(ILGraphLog$Disk;I)V"⟩
abbrev cX0_addSlot : ByteArray := prog_2_method_10_code
def yX0_addSlot : MethodName := ⟨RX0, "addSlot", "(I)I"⟩
abbrev cX0_countNamed : ByteArray := prog_2_method_11_code
def yX0_countNamed : MethodName := ⟨RX0, "countNamed", "()I"⟩
abbrev cX0_namedAlike : ByteArray := prog_2_method_12_code
def yX0_namedAlike : MethodName := ⟨RX0, "namedAlike", "(LGraphLog$Known;I)I"⟩
abbrev cX0_isAlike : ByteArray := prog_2_method_13_code
def yX0_isAlike : MethodName := ⟨RX0, "isAlike", "(ILGraphLog$Known;I)Z"⟩
abbrev cX0_markNamed : ByteArray := prog_2_method_14_code
def yX0_markNamed : MethodName := ⟨RX0, "markNamed", "([Z)V"⟩
def RX1 : String := "GraphLog$Disk"
def TX1 : u_T := fun k => match k with
  | 0 => ("GraphLog$Disk", "bytes", "[B", true)
  | 1 => ("GraphLog$Disk", "before", "[I", true)
  | 2 => ("GraphLog$Disk", "written", "I", false)
  | _ => ("GraphLog$Disk", "at", "I", false)
def tyX1 : Nat → FieldType := fun k => match k with
  | 0 => .array .byte
  | 1 => .array .int
  | 2 => .int
  | _ => .int
theorem nmX1 : ∀ a, a < 4 → ∀ b, b < 4 → a ≠ b → (TX1 a).2.1 ≠ (TX1 b).2.1 := by decide +kernel
theorem tyX1_ok : ∀ k, k < 4 → parseFieldDescriptor (TX1 k).2.2.1 = some (tyX1 k) := by decide +kernel
abbrev cX1_init : ByteArray := prog_3_method_1_code
def yX1_init : MethodName := ⟨RX1, "<init>", "()V"⟩
abbrev cX1_clear : ByteArray := prog_3_method_2_code
def yX1_clear : MethodName := ⟨RX1, "clear", "()V"⟩
abbrev cX1_forgetWritten : ByteArray := prog_3_method_3_code
def yX1_forgetWritten : MethodName := ⟨RX1, "forgetWritten", "()V"⟩
abbrev cX1_goTo : ByteArray := prog_3_method_4_code
def yX1_goTo : MethodName := ⟨RX1, "goTo", "(I)V"⟩
abbrev cX1_get : ByteArray := prog_3_method_5_code
def yX1_get : MethodName := ⟨RX1, "get", "(I)I"⟩
abbrev cX1_set : ByteArray := prog_3_method_6_code
def yX1_set : MethodName := ⟨RX1, "set", "(II)V"⟩
abbrev cX1_number : ByteArray := prog_3_method_7_code
def yX1_number : MethodName := ⟨RX1, "number", "(II)J"⟩
abbrev cX1_write : ByteArray := prog_3_method_8_code
def yX1_write : MethodName := ⟨RX1, "write", "(JI)V"⟩
abbrev cX1_writeByte : ByteArray := prog_3_method_9_code
def yX1_writeByte : MethodName := ⟨RX1, "writeByte", "(I)V"⟩
abbrev cX1_takeBack : ByteArray := prog_3_method_10_code
def yX1_takeBack : MethodName := ⟨RX1, "takeBack", "(I)I"⟩
abbrev cX1_sum : ByteArray := prog_3_method_11_code
def yX1_sum : MethodName := ⟨RX1, "sum", "(IIJ)J"⟩
def RX2 : String := "GraphLog$Known"
def TX2 : u_T := fun k => match k with
  | 0 => ("GraphLog$Known", "now", "[J", true)
  | 1 => ("GraphLog$Known", "chunks", "LGraphLog$Chunks;", true)
  | 2 => ("GraphLog$Known", "there", "[Z", true)
  | 3 => ("GraphLog$Known", "slots", "[I", true)
  | 4 => ("GraphLog$Known", "answerVersions", "[I", true)
  | 5 => ("GraphLog$Known", "answerMasks", "[J", true)
  | 6 => ("GraphLog$Known", "room", "I", false)
  | 7 => ("GraphLog$Known", "changes", "I", false)
  | 8 => ("GraphLog$Known", "versions", "I", false)
  | 9 => ("GraphLog$Known", "answers", "I", false)
  | 10 => ("GraphLog$Known", "rows", "I", false)
  | _ => ("GraphLog$Known", "length", "I", false)
def tyX2 : Nat → FieldType := fun k => match k with
  | 0 => .array .long
  | 1 => .object "GraphLog$Chunks"
  | 2 => .array .boolean
  | 3 => .array .int
  | 4 => .array .int
  | 5 => .array .long
  | 6 => .int
  | 7 => .int
  | 8 => .int
  | 9 => .int
  | 10 => .int
  | _ => .int
theorem nmX2 : ∀ a, a < 12 → ∀ b, b < 12 → a ≠ b → (TX2 a).2.1 ≠ (TX2 b).2.1 := by decide +kernel
theorem tyX2_ok : ∀ k, k < 12 → parseFieldDescriptor (TX2 k).2.2.1 = some (tyX2 k) := by decide +kernel
abbrev cX2_init : ByteArray := prog_4_method_1_code
def yX2_init : MethodName := ⟨RX2, "<init>", "()V"⟩
abbrev cX2_forget : ByteArray := prog_4_method_2_code
def yX2_forget : MethodName := ⟨RX2, "forget", "(I)V"⟩
abbrev cX2_isThere : ByteArray := prog_4_method_3_code
def yX2_isThere : MethodName := ⟨RX2, "isThere", "(I)Z"⟩
abbrev cX2_countThere : ByteArray := prog_4_method_4_code
def yX2_countThere : MethodName := ⟨RX2, "countThere", "()I"⟩
abbrev cX2_slotOf : ByteArray := prog_4_method_5_code
def yX2_slotOf : MethodName := ⟨RX2, "slotOf", "(II)I"⟩
abbrev cX2_edgesOfNow : ByteArray := prog_4_method_6_code
def yX2_edgesOfNow : MethodName := ⟨RX2, "edgesOfNow", "(I)J"⟩
abbrev cX2_edgesFrom : ByteArray := prog_4_method_7_code
def yX2_edgesFrom : MethodName := ⟨RX2, "edgesFrom", "(II)J"⟩
abbrev cX2_joins : ByteArray := prog_4_method_8_code
def yX2_joins : MethodName := ⟨RX2, "joins", "(III)Z"⟩
abbrev cX2_countEdges : ByteArray := prog_4_method_9_code
def yX2_countEdges : MethodName := ⟨RX2, "countEdges", "()I"⟩
abbrev cX2_versionOfAnswer : ByteArray := prog_4_method_10_code
def yX2_versionOfAnswer : MethodName := ⟨RX2, "versionOfAnswer", "(I)I"⟩
abbrev cX2_maskOfAnswer : ByteArray := prog_4_method_11_code
def yX2_maskOfAnswer : MethodName := ⟨RX2, "maskOfAnswer", "(I)J"⟩
abbrev cX2_readLog : ByteArray := prog_4_method_12_code
def yX2_readLog : MethodName := ⟨RX2, "readLog", "(LGraphLog$Disk;II)I"⟩
abbrev cX2_isRowRight : ByteArray := prog_4_method_13_code
def yX2_isRowRight : MethodName := ⟨RX2, "isRowRight", "(LGraphLog$Disk;II)Z"⟩
abbrev cX2_isTextRight : ByteArray := prog_4_method_14_code
def yX2_isTextRight : MethodName := ⟨RX2, "isTextRight", "(LGraphLog$Disk;I)Z"⟩
abbrev cX2_isChange : ByteArray := prog_4_method_15_code
def yX2_isChange : MethodName := ⟨RX2, "isChange", "(III)Z"⟩
abbrev cX2_haveCome : ByteArray := prog_4_method_16_code
def yX2_haveCome : MethodName := ⟨RX2, "haveCome", "(LGraphLog$Disk;I)Z"⟩
abbrev cX2_takeRow : ByteArray := prog_4_method_17_code
def yX2_takeRow : MethodName := ⟨RX2, "takeRow", "(LGraphLog$Disk;I)V"⟩
abbrev cX2_takeChange : ByteArray := prog_4_method_18_code
def yX2_takeChange : MethodName := ⟨RX2, "takeChange", "(II)V"⟩
abbrev cX2_takeVersion : ByteArray := prog_4_method_19_code
def yX2_takeVersion : MethodName := ⟨RX2, "takeVersion", "(LGraphLog$Disk;I)V"⟩
abbrev cX2_takeAnswer : ByteArray := prog_4_method_20_code
def yX2_takeAnswer : MethodName := ⟨RX2, "takeAnswer", "(IJ)V"⟩
abbrev cX2_takeDrop : ByteArray := prog_4_method_21_code
def yX2_takeDrop : MethodName := ⟨RX2, "takeDrop", "(I)V"⟩
abbrev cX2_nameChunks : ByteArray := prog_4_method_22_code
def yX2_nameChunks : MethodName := ⟨RX2, "nameChunks", "(II)V"⟩
abbrev cX2_hasBefore : ByteArray := prog_4_method_23_code
def yX2_hasBefore : MethodName := ⟨RX2, "hasBefore", "(II)Z"⟩
def RX3 : String := "GraphLog$Plan"
def TX3 : u_T := fun k => match k with
  | 0 => ("GraphLog$Plan", "numbers", "[I", true)
  | 1 => ("GraphLog$Plan", "fresh", "[Z", true)
  | 2 => ("GraphLog$Plan", "taken", "[Z", true)
  | _ => ("GraphLog$Plan", "freshCount", "I", false)
def tyX3 : Nat → FieldType := fun k => match k with
  | 0 => .array .int
  | 1 => .array .boolean
  | 2 => .array .boolean
  | _ => .int
theorem nmX3 : ∀ a, a < 4 → ∀ b, b < 4 → a ≠ b → (TX3 a).2.1 ≠ (TX3 b).2.1 := by decide +kernel
theorem tyX3_ok : ∀ k, k < 4 → parseFieldDescriptor (TX3 k).2.2.1 = some (tyX3 k) := by decide +kernel
abbrev cX3_init : ByteArray := prog_5_method_1_code
def yX3_init : MethodName := ⟨RX3, "<init>", "()V"⟩
abbrev cX3_numberOf : ByteArray := prog_5_method_2_code
def yX3_numberOf : MethodName := ⟨RX3, "numberOf", "(I)I"⟩
abbrev cX3_isNew : ByteArray := prog_5_method_3_code
def yX3_isNew : MethodName := ⟨RX3, "isNew", "(I)Z"⟩
abbrev cX3_bytes : ByteArray := prog_5_method_4_code
def yX3_bytes : MethodName := ⟨RX3, "bytes", "()I"⟩
abbrev cX3_numberChunks : ByteArray := prog_5_method_5_code
def yX3_numberChunks : MethodName := ⟨RX3, "numberChunks", "(LGraphLog$Known;)Z"⟩
abbrev cX3_alikeBefore : ByteArray := prog_5_method_6_code
def yX3_alikeBefore : MethodName := ⟨RX3, "alikeBefore", "(LGraphLog$Known;I)I"⟩
abbrev cX3_areAlike : ByteArray := prog_5_method_7_code
def yX3_areAlike : MethodName := ⟨RX3, "areAlike", "(LGraphLog$Known;II)Z"⟩
abbrev cX3_takeLeast : ByteArray := prog_5_method_8_code
def yX3_takeLeast : MethodName := ⟨RX3, "takeLeast", "(I)I"⟩
def RX4 : String := "GraphLog"
def TX4 : u_T := fun k => match k with
  | 0 => ("GraphLog", "disk", "LGraphLog$Disk;", true)
  | 1 => ("GraphLog", "known", "LGraphLog$Known;", true)
  | 2 => ("GraphLog", "onDisk", "LGraphLog$Known;", true)
  | 3 => ("GraphLog", "plan", "LGraphLog$Plan;", true)
  | 4 => ("GraphLog", "turn", "I", false)
  | _ => ("GraphLog", "opened", "Z", false)
def tyX4 : Nat → FieldType := fun k => match k with
  | 0 => .object "GraphLog$Disk"
  | 1 => .object "GraphLog$Known"
  | 2 => .object "GraphLog$Known"
  | 3 => .object "GraphLog$Plan"
  | 4 => .int
  | _ => .boolean
theorem nmX4 : ∀ a, a < 6 → ∀ b, b < 6 → a ≠ b → (TX4 a).2.1 ≠ (TX4 b).2.1 := by decide +kernel
theorem tyX4_ok : ∀ k, k < 6 → parseFieldDescriptor (TX4 k).2.2.1 = some (tyX4 k) := by decide +kernel
abbrev cX4_init : ByteArray := prog_1_method_1_code
def yX4_init : MethodName := ⟨RX4, "<init>", "()V"⟩
abbrev cX4_begin : ByteArray := prog_1_method_2_code
def yX4_begin : MethodName := ⟨RX4, "begin", "(I)V"⟩
abbrev cX4_edge : ByteArray := prog_1_method_3_code
def yX4_edge : MethodName := ⟨RX4, "edge", "(IIZ)I"⟩
abbrev cX4_version : ByteArray := prog_1_method_4_code
def yX4_version : MethodName := ⟨RX4, "version", "()I"⟩
abbrev cX4_answer : ByteArray := prog_1_method_5_code
def yX4_answer : MethodName := ⟨RX4, "answer", "(II)I"⟩
abbrev cX4_drop : ByteArray := prog_1_method_6_code
def yX4_drop : MethodName := ⟨RX4, "drop", "(I)I"⟩
abbrev cX4_keep : ByteArray := prog_1_method_7_code
def yX4_keep : MethodName := ⟨RX4, "keep", "()I"⟩
abbrev cX4_crash : ByteArray := prog_1_method_8_code
def yX4_crash : MethodName := ⟨RX4, "crash", "(I)I"⟩
abbrev cX4_open : ByteArray := prog_1_method_9_code
def yX4_open : MethodName := ⟨RX4, "open", "()I"⟩
abbrev cX4_poke : ByteArray := prog_1_method_10_code
def yX4_poke : MethodName := ⟨RX4, "poke", "(II)I"⟩
abbrev cX4_byteAt : ByteArray := prog_1_method_11_code
def yX4_byteAt : MethodName := ⟨RX4, "byteAt", "(I)I"⟩
abbrev cX4_badAt : ByteArray := prog_1_method_12_code
def yX4_badAt : MethodName := ⟨RX4, "badAt", "()I"⟩
abbrev cX4_has : ByteArray := prog_1_method_13_code
def yX4_has : MethodName := ⟨RX4, "has", "(III)Z"⟩
abbrev cX4_chunk : ByteArray := prog_1_method_14_code
def yX4_chunk : MethodName := ⟨RX4, "chunk", "(II)I"⟩
abbrev cX4_named : ByteArray := prog_1_method_15_code
def yX4_named : MethodName := ⟨RX4, "named", "(I)I"⟩
abbrev cX4_differ : ByteArray := prog_1_method_16_code
def yX4_differ : MethodName := ⟨RX4, "differ", "(II)I"⟩
abbrev cX4_far : ByteArray := prog_1_method_17_code
def yX4_far : MethodName := ⟨RX4, "far", "(III)I"⟩
abbrev cX4_usable : ByteArray := prog_1_method_18_code
def yX4_usable : MethodName := ⟨RX4, "usable", "(I)Z"⟩
abbrev cX4_mask : ByteArray := prog_1_method_19_code
def yX4_mask : MethodName := ⟨RX4, "mask", "(I)J"⟩
abbrev cX4_told : ByteArray := prog_1_method_20_code
def yX4_told : MethodName := ⟨RX4, "told", "(I)I"⟩
abbrev cX4_isOpen : ByteArray := prog_1_method_21_code
def yX4_isOpen : MethodName := ⟨RX4, "isOpen", "()Z"⟩
abbrev cX4_requireOpen : ByteArray := prog_1_method_22_code
def yX4_requireOpen : MethodName := ⟨RX4, "requireOpen", "()V"⟩
abbrev cX4_requireNode : ByteArray := prog_1_method_23_code
def yX4_requireNode : MethodName := ⟨RX4, "requireNode", "(I)V"⟩
abbrev cX4_requireVersion : ByteArray := prog_1_method_24_code
def yX4_requireVersion : MethodName := ⟨RX4, "requireVersion", "(I)V"⟩
abbrev cX4_requireGraph : ByteArray := prog_1_method_25_code
def yX4_requireGraph : MethodName := ⟨RX4, "requireGraph", "(I)V"⟩
abbrev cX4_requireAnswer : ByteArray := prog_1_method_26_code
def yX4_requireAnswer : MethodName := ⟨RX4, "requireAnswer", "(I)V"⟩
abbrev cX4_requirePlace : ByteArray := prog_1_method_27_code
def yX4_requirePlace : MethodName := ⟨RX4, "requirePlace", "(I)V"⟩
abbrev cX4_startAnew : ByteArray := prog_1_method_28_code
def yX4_startAnew : MethodName := ⟨RX4, "startAnew", "(I)V"⟩
abbrev cX4_logHasRoom : ByteArray := prog_1_method_29_code
def yX4_logHasRoom : MethodName := ⟨RX4, "logHasRoom", "(I)Z"⟩
abbrev cX4_startRow : ByteArray := prog_1_method_30_code
def yX4_startRow : MethodName := ⟨RX4, "startRow", "(II)V"⟩
abbrev cX4_endRow : ByteArray := prog_1_method_31_code
def yX4_endRow : MethodName := ⟨RX4, "endRow", "()V"⟩
abbrev cX4_writeChunk : ByteArray := prog_1_method_32_code
def yX4_writeChunk : MethodName := ⟨RX4, "writeChunk", "(II)V"⟩
abbrev cX4_writeHead : ByteArray := prog_1_method_33_code
def yX4_writeHead : MethodName := ⟨RX4, "writeHead", "()V"⟩
abbrev cX4_headToTake : ByteArray := prog_1_method_34_code
def yX4_headToTake : MethodName := ⟨RX4, "headToTake", "()I"⟩
abbrev cX4_isHeadRight : ByteArray := prog_1_method_35_code
def yX4_isHeadRight : MethodName := ⟨RX4, "isHeadRight", "(I)Z"⟩
abbrev cX4_reachedFrom : ByteArray := prog_1_method_36_code
def yX4_reachedFrom : MethodName := ⟨RX4, "reachedFrom", "(II)J"⟩
abbrev cX4_oneEdgeOn : ByteArray := prog_1_method_37_code
def yX4_oneEdgeOn : MethodName := ⟨RX4, "oneEdgeOn", "(IJ)J"⟩
abbrev cX4_sizeOf : ByteArray := prog_1_method_38_code
def yX4_sizeOf : MethodName := ⟨RX4, "sizeOf", "(I)I"⟩
def RX5 : String := "GraphLogModel"
def TX5 : u_T := fun k => match k with
  | 0 => ("GraphLogModel", "thrown", "I", false)
  | 1 => ("GraphLogModel", "room", "I", false)
  | 2 => ("GraphLogModel", "disk", "[I", true)
  | 3 => ("GraphLogModel", "open", "Z", false)
  | 4 => ("GraphLogModel", "turn", "I", false)
  | 5 => ("GraphLogModel", "place", "[I", true)
  | 6 => ("GraphLogModel", "old", "[I", true)
  | 7 => ("GraphLogModel", "written", "I", false)
  | 8 => ("GraphLogModel", "longest", "I", false)
  | 9 => ("GraphLogModel", "log", "I", false)
  | 10 => ("GraphLogModel", "rows", "I", false)
  | 11 => ("GraphLogModel", "changes", "I", false)
  | 12 => ("GraphLogModel", "now", "[J", true)
  | 13 => ("GraphLogModel", "slot", "[I", true)
  | 14 => ("GraphLogModel", "chunks", "I", false)
  | 15 => ("GraphLogModel", "chunk", "[J", true)
  | 16 => ("GraphLogModel", "versions", "I", false)
  | 17 => ("GraphLogModel", "there", "[Z", true)
  | 18 => ("GraphLogModel", "part", "[I", true)
  | 19 => ("GraphLogModel", "answers", "I", false)
  | 20 => ("GraphLogModel", "of", "[I", true)
  | 21 => ("GraphLogModel", "masks", "[J", true)
  | 22 => ("GraphLogModel", "numbers", "[I", true)
  | 23 => ("GraphLogModel", "isNew", "[Z", true)
  | 24 => ("GraphLogModel", "keptNow", "[J", true)
  | 25 => ("GraphLogModel", "keptSlot", "[I", true)
  | 26 => ("GraphLogModel", "keptChunk", "[J", true)
  | 27 => ("GraphLogModel", "keptThere", "[Z", true)
  | 28 => ("GraphLogModel", "keptPart", "[I", true)
  | 29 => ("GraphLogModel", "keptOf", "[I", true)
  | _ => ("GraphLogModel", "keptMasks", "[J", true)
def tyX5 : Nat → FieldType := fun k => match k with
  | 0 => .int
  | 1 => .int
  | 2 => .array .int
  | 3 => .boolean
  | 4 => .int
  | 5 => .array .int
  | 6 => .array .int
  | 7 => .int
  | 8 => .int
  | 9 => .int
  | 10 => .int
  | 11 => .int
  | 12 => .array .long
  | 13 => .array .int
  | 14 => .int
  | 15 => .array .long
  | 16 => .int
  | 17 => .array .boolean
  | 18 => .array .int
  | 19 => .int
  | 20 => .array .int
  | 21 => .array .long
  | 22 => .array .int
  | 23 => .array .boolean
  | 24 => .array .long
  | 25 => .array .int
  | 26 => .array .long
  | 27 => .array .boolean
  | 28 => .array .int
  | 29 => .array .int
  | _ => .array .long
theorem nmX5 : ∀ a, a < 31 → ∀ b, b < 31 → a ≠ b → (TX5 a).2.1 ≠ (TX5 b).2.1 := by decide +kernel
theorem tyX5_ok : ∀ k, k < 31 → parseFieldDescriptor (TX5 k).2.2.1 = some (tyX5 k) := by decide +kernel
abbrev cX5_init : ByteArray := prog_7_method_1_code
def yX5_init : MethodName := ⟨RX5, "<init>", "()V"⟩
abbrev cX5_begin : ByteArray := prog_7_method_2_code
def yX5_begin : MethodName := ⟨RX5, "begin", "(I)V"⟩
abbrev cX5_anew : ByteArray := prog_7_method_3_code
def yX5_anew : MethodName := ⟨RX5, "anew", "(I)V"⟩
abbrev cX5_thrown : ByteArray := prog_7_method_4_code
def yX5_thrown : MethodName := ⟨RX5, "thrown", "()I"⟩
abbrev cX5_in : ByteArray := prog_7_method_5_code
def yX5_in : MethodName := ⟨RX5, "in", "(III)Z"⟩
abbrev cX5_forget : ByteArray := prog_7_method_6_code
def yX5_forget : MethodName := ⟨RX5, "forget", "()V"⟩
abbrev cX5_put : ByteArray := prog_7_method_7_code
def yX5_put : MethodName := ⟨RX5, "put", "(II)V"⟩
abbrev cX5_number : ByteArray := prog_7_method_8_code
def yX5_number : MethodName := ⟨RX5, "number", "(II)J"⟩
abbrev cX5_sum : ByteArray := prog_7_method_9_code
def yX5_sum : MethodName := ⟨RX5, "sum", "(JII)J"⟩
abbrev cX5_putNumber : ByteArray := prog_7_method_10_code
def yX5_putNumber : MethodName := ⟨RX5, "putNumber", "(IJI)V"⟩
abbrev cX5_putHead : ByteArray := prog_7_method_11_code
def yX5_putHead : MethodName := ⟨RX5, "putHead", "(I)V"⟩
abbrev cX5_begin_ : ByteArray := prog_7_method_12_code
def yX5_begin_ : MethodName := ⟨RX5, "begin", "(III)I"⟩
abbrev cX5_end : ByteArray := prog_7_method_13_code
def yX5_end : MethodName := ⟨RX5, "end", "(I)V"⟩
abbrev cX5_sizeOf : ByteArray := prog_7_method_14_code
def yX5_sizeOf : MethodName := ⟨RX5, "sizeOf", "(I)I"⟩
abbrev cX5_isThere : ByteArray := prog_7_method_15_code
def yX5_isThere : MethodName := ⟨RX5, "isThere", "(I)Z"⟩
abbrev cX5_namedBy : ByteArray := prog_7_method_16_code
def yX5_namedBy : MethodName := ⟨RX5, "namedBy", "(I)I"⟩
abbrev cX5_hasNow : ByteArray := prog_7_method_17_code
def yX5_hasNow : MethodName := ⟨RX5, "hasNow", "(II)Z"⟩
abbrev cX5_isRight : ByteArray := prog_7_method_18_code
def yX5_isRight : MethodName := ⟨RX5, "isRight", "(II)Z"⟩
abbrev cX5_take : ByteArray := prog_7_method_19_code
def yX5_take : MethodName := ⟨RX5, "take", "(II)V"⟩
abbrev cX5_fits : ByteArray := prog_7_method_20_code
def yX5_fits : MethodName := ⟨RX5, "fits", "(I)Z"⟩
abbrev cX5_edge : ByteArray := prog_7_method_21_code
def yX5_edge : MethodName := ⟨RX5, "edge", "(IIZ)I"⟩
abbrev cX5_isAlike : ByteArray := prog_7_method_22_code
def yX5_isAlike : MethodName := ⟨RX5, "isAlike", "(II)Z"⟩
abbrev cX5_find : ByteArray := prog_7_method_23_code
def yX5_find : MethodName := ⟨RX5, "find", "(I)I"⟩
abbrev cX5_earlier : ByteArray := prog_7_method_24_code
def yX5_earlier : MethodName := ⟨RX5, "earlier", "(I)I"⟩
abbrev cX5_leastFree : ByteArray := prog_7_method_25_code
def yX5_leastFree : MethodName := ⟨RX5, "leastFree", "(I)I"⟩
abbrev cX5_version : ByteArray := prog_7_method_26_code
def yX5_version : MethodName := ⟨RX5, "version", "()I"⟩
abbrev cX5_edges : ByteArray := prog_7_method_27_code
def yX5_edges : MethodName := ⟨RX5, "edges", "(II)J"⟩
abbrev cX5_reach : ByteArray := prog_7_method_28_code
def yX5_reach : MethodName := ⟨RX5, "reach", "(II)J"⟩
abbrev cX5_answer : ByteArray := prog_7_method_29_code
def yX5_answer : MethodName := ⟨RX5, "answer", "(II)I"⟩
abbrev cX5_namedMany : ByteArray := prog_7_method_30_code
def yX5_namedMany : MethodName := ⟨RX5, "namedMany", "()I"⟩
abbrev cX5_drop : ByteArray := prog_7_method_31_code
def yX5_drop : MethodName := ⟨RX5, "drop", "(I)I"⟩
abbrev cX5_keep : ByteArray := prog_7_method_32_code
def yX5_keep : MethodName := ⟨RX5, "keep", "()I"⟩
abbrev cX5_crash : ByteArray := prog_7_method_33_code
def yX5_crash : MethodName := ⟨RX5, "crash", "(I)I"⟩
abbrev cX5_isHead : ByteArray := prog_7_method_34_code
def yX5_isHead : MethodName := ⟨RX5, "isHead", "(I)Z"⟩
abbrev cX5_open : ByteArray := prog_7_method_35_code
def yX5_open : MethodName := ⟨RX5, "open", "()I"⟩
abbrev cX5_thereMany : ByteArray := prog_7_method_36_code
def yX5_thereMany : MethodName := ⟨RX5, "thereMany", "()I"⟩
abbrev cX5_poke : ByteArray := prog_7_method_37_code
def yX5_poke : MethodName := ⟨RX5, "poke", "(II)I"⟩
abbrev cX5_byteAt : ByteArray := prog_7_method_38_code
def yX5_byteAt : MethodName := ⟨RX5, "byteAt", "(I)I"⟩
abbrev cX5_keepBeside : ByteArray := prog_7_method_39_code
def yX5_keepBeside : MethodName := ⟨RX5, "keepBeside", "(Z)V"⟩
abbrev cX5_badAt : ByteArray := prog_7_method_40_code
def yX5_badAt : MethodName := ⟨RX5, "badAt", "()I"⟩
abbrev cX5_isVersion : ByteArray := prog_7_method_41_code
def yX5_isVersion : MethodName := ⟨RX5, "isVersion", "(I)Z"⟩
abbrev cX5_has : ByteArray := prog_7_method_42_code
def yX5_has : MethodName := ⟨RX5, "has", "(III)Z"⟩
abbrev cX5_chunk : ByteArray := prog_7_method_43_code
def yX5_chunk : MethodName := ⟨RX5, "chunk", "(II)I"⟩
abbrev cX5_named : ByteArray := prog_7_method_44_code
def yX5_named : MethodName := ⟨RX5, "named", "(I)I"⟩
abbrev cX5_differ : ByteArray := prog_7_method_45_code
def yX5_differ : MethodName := ⟨RX5, "differ", "(II)I"⟩
abbrev cX5_far : ByteArray := prog_7_method_46_code
def yX5_far : MethodName := ⟨RX5, "far", "(III)I"⟩
abbrev cX5_usable : ByteArray := prog_7_method_47_code
def yX5_usable : MethodName := ⟨RX5, "usable", "(I)Z"⟩
abbrev cX5_mask : ByteArray := prog_7_method_48_code
def yX5_mask : MethodName := ⟨RX5, "mask", "(I)J"⟩
abbrev cX5_told : ByteArray := prog_7_method_49_code
def yX5_told : MethodName := ⟨RX5, "told", "(I)I"⟩
abbrev cX5_isOpen : ByteArray := prog_7_method_50_code
def yX5_isOpen : MethodName := ⟨RX5, "isOpen", "()Z"⟩
def RJ13 : String := "java/lang/Long"
def TJ13 : u_T := fun k => match k with
  | _ => ("", "", "", false)
def tyJ13 : Nat → FieldType := fun k => match k with
  | _ => .int
theorem nmJ13 : ∀ a, a < 0 → ∀ b, b < 0 → a ≠ b → (TJ13 a).2.1 ≠ (TJ13 b).2.1 := by decide +kernel
theorem tyJ13_ok : ∀ k, k < 0 → parseFieldDescriptor (TJ13 k).2.2.1 = some (tyJ13 k) := by decide +kernel
abbrev cJ13_bitCount_95d88 : ByteArray := prog_12_method_50_code
def yJ13_bitCount_95d88 : MethodName := ⟨RJ13, "bitCount", "(J)I"⟩
def RJ9 : String := "java/lang/Math"
def TJ9 : u_T := fun k => match k with
  | _ => ("", "", "", false)
def tyJ9 : Nat → FieldType := fun k => match k with
  | _ => .int
theorem nmJ9 : ∀ a, a < 0 → ∀ b, b < 0 → a ≠ b → (TJ9 a).2.1 ≠ (TJ9 b).2.1 := by decide +kernel
theorem tyJ9_ok : ∀ k, k < 0 → parseFieldDescriptor (TJ9 k).2.2.1 = some (tyJ9 k) := by decide +kernel
abbrev cJ9_max_7cf53 : ByteArray := prog_13_method_65_code
def yJ9_max_7cf53 : MethodName := ⟨RJ9, "max", "(II)I"⟩
abbrev cJ9_min_7cf53 : ByteArray := prog_13_method_69_code
def yJ9_min_7cf53 : MethodName := ⟨RJ9, "min", "(II)I"⟩
def RJxde1cd : String := "java/lang/NegativeArraySizeException"
def TJxde1cd : u_T := fun k => match k with
  | 0 => ("java/lang/Throwable", "cause", "Ljava/lang/Throwable;", false)
  | 1 => ("java/lang/Throwable", "stackTrace", "[Ljava/lang/StackTraceElement;", false)
  | 2 => ("java/lang/Throwable", "suppressedExceptions", "Ljava/util/List;", false)
  | 3 => ("java/lang/Throwable", "detailMessage", "Ljava/lang/String;", false)
  | 4 => ("java/lang/Throwable", "backtrace", "Ljava/lang/Object;", false)
  | _ => ("java/lang/Throwable", "depth", "I", false)
def tyJxde1cd : Nat → FieldType := fun k => match k with
  | 0 => .object "java/lang/Throwable"
  | 1 => .array (.object "java/lang/StackTraceElement")
  | 2 => .object "java/util/List"
  | 3 => .object "java/lang/String"
  | 4 => .object "java/lang/Object"
  | _ => .int
theorem nmJxde1cd : ∀ a, a < 6 → ∀ b, b < 6 → a ≠ b → (TJxde1cd a).2.1 ≠ (TJxde1cd b).2.1 := by decide +kernel
theorem tyJxde1cd_ok : ∀ k, k < 6 → parseFieldDescriptor (TJxde1cd k).2.2.1 = some (tyJxde1cd k) := by decide +kernel
abbrev cJxde1cd_init_a7421 : ByteArray := prog_14_method_2_code
def yJxde1cd_init_a7421 : MethodName := ⟨RJxde1cd, "<init>", "(Ljava/lang/String;)V"⟩
def RJ0 : String := "java/lang/String"
def TJ0 : u_T := fun k => match k with
  | _ => ("", "", "", false)
def tyJ0 : Nat → FieldType := fun k => match k with
  | _ => .int
theorem nmJ0 : ∀ a, a < 0 → ∀ b, b < 0 → a ≠ b → (TJ0 a).2.1 ≠ (TJ0 b).2.1 := by decide +kernel
theorem tyJ0_ok : ∀ k, k < 0 → parseFieldDescriptor (TJ0 k).2.2.1 = some (tyJ0 k) := by decide +kernel
def RJ7 : String := "java/util/Arrays"
def TJ7 : u_T := fun k => match k with
  | _ => ("", "", "", false)
def tyJ7 : Nat → FieldType := fun k => match k with
  | _ => .int
theorem nmJ7 : ∀ a, a < 0 → ∀ b, b < 0 → a ≠ b → (TJ7 a).2.1 ≠ (TJ7 b).2.1 := by decide +kernel
theorem tyJ7_ok : ∀ k, k < 0 → parseFieldDescriptor (TJ7 k).2.2.1 = some (tyJ7 k) := by decide +kernel
abbrev cJ7_fill_d0a16 : ByteArray := prog_18_method_101_code
def yJ7_fill_d0a16 : MethodName := ⟨RJ7, "fill", "([JJ)V"⟩
abbrev cJ7_fill_031fb : ByteArray := prog_18_method_109_code
def yJ7_fill_031fb : MethodName := ⟨RJ7, "fill", "([BB)V"⟩
def RL : String := "GraphLogLaw"
abbrev cL_begin : ByteArray := method_3_code
def yL_begin : MethodName := ⟨RL, "begin", "(LGraphLog;I)I"⟩
abbrev cL_edge : ByteArray := method_4_code
def yL_edge : MethodName := ⟨RL, "edge", "(LGraphLog;IIZ[J)I"⟩
abbrev cL_version : ByteArray := method_5_code
def yL_version : MethodName := ⟨RL, "version", "(LGraphLog;[J)I"⟩
abbrev cL_answer : ByteArray := method_6_code
def yL_answer : MethodName := ⟨RL, "answer", "(LGraphLog;II[J)I"⟩
abbrev cL_drop : ByteArray := method_7_code
def yL_drop : MethodName := ⟨RL, "drop", "(LGraphLog;I[J)I"⟩
abbrev cL_keep : ByteArray := method_8_code
def yL_keep : MethodName := ⟨RL, "keep", "(LGraphLog;[J)I"⟩
abbrev cL_poke : ByteArray := method_9_code
def yL_poke : MethodName := ⟨RL, "poke", "(LGraphLog;II[J)I"⟩
abbrev cL_byteAt : ByteArray := method_10_code
def yL_byteAt : MethodName := ⟨RL, "byteAt", "(LGraphLog;I[J)I"⟩
abbrev cL_badAt : ByteArray := method_11_code
def yL_badAt : MethodName := ⟨RL, "badAt", "(LGraphLog;[J)I"⟩
abbrev cL_has : ByteArray := method_12_code
def yL_has : MethodName := ⟨RL, "has", "(LGraphLog;III[J)I"⟩
abbrev cL_chunk : ByteArray := method_13_code
def yL_chunk : MethodName := ⟨RL, "chunk", "(LGraphLog;II[J)I"⟩
abbrev cL_named : ByteArray := method_14_code
def yL_named : MethodName := ⟨RL, "named", "(LGraphLog;I[J)I"⟩
abbrev cL_differ : ByteArray := method_15_code
def yL_differ : MethodName := ⟨RL, "differ", "(LGraphLog;II[J)I"⟩
abbrev cL_far : ByteArray := method_16_code
def yL_far : MethodName := ⟨RL, "far", "(LGraphLog;III[J)I"⟩
abbrev cL_usable : ByteArray := method_17_code
def yL_usable : MethodName := ⟨RL, "usable", "(LGraphLog;I[J)I"⟩
abbrev cL_mask : ByteArray := method_18_code
def yL_mask : MethodName := ⟨RL, "mask", "(LGraphLog;I[J)I"⟩
abbrev cL_told : ByteArray := method_19_code
def yL_told : MethodName := ⟨RL, "told", "(LGraphLog;I[J)I"⟩
abbrev cL_law : ByteArray := code
def yL_law : MethodName := ⟨RL, "law", "([I)Z"⟩
end
section
theorem dX0_init_0 : decode cX0_init 0 = .ok (.aload_n 0, 1) := by decide +kernel
theorem dX0_init_1 : decode cX0_init 1 = .ok (.invokespecial 3, 3) := by decide +kernel
theorem dX0_init_4 : decode cX0_init 4 = .ok (.aload_n 0, 1) := by decide +kernel
theorem dX0_init_5 : decode cX0_init 5 = .ok (.sipush 315, 3) := by decide +kernel
theorem dX0_init_8 : decode cX0_init 8 = .ok (.newarray .int, 2) := by decide +kernel
theorem dX0_init_10 : decode cX0_init 10 = .ok (.putfield 9, 3) := by decide +kernel
theorem dX0_init_13 : decode cX0_init 13 = .ok (.aload_n 0, 1) := by decide +kernel
theorem dX0_init_14 : decode cX0_init 14 = .ok (.sipush 315, 3) := by decide +kernel
theorem dX0_init_17 : decode cX0_init 17 = .ok (.newarray .int, 2) := by decide +kernel
theorem dX0_init_19 : decode cX0_init 19 = .ok (.putfield 15, 3) := by decide +kernel
theorem dX0_init_22 : decode cX0_init 22 = .ok (.aload_n 0, 1) := by decide +kernel
theorem dX0_init_23 : decode cX0_init 23 = .ok (.sipush 2520, 3) := by decide +kernel
theorem dX0_init_26 : decode cX0_init 26 = .ok (.newarray .long, 2) := by decide +kernel
theorem dX0_init_28 : decode cX0_init 28 = .ok (.putfield 18, 3) := by decide +kernel
theorem dX0_init_31 : decode cX0_init 31 = .ok (.return_, 1) := by decide +kernel
theorem dX0_forget_0 : decode cX0_forget 0 = .ok (.aload_n 0, 1) := by decide +kernel
theorem dX0_forget_1 : decode cX0_forget 1 = .ok (.iconst 0, 1) := by decide +kernel
theorem dX0_forget_2 : decode cX0_forget 2 = .ok (.putfield 22, 3) := by decide +kernel
theorem dX0_forget_5 : decode cX0_forget 5 = .ok (.return_, 1) := by decide +kernel
theorem dX0_isSlot_0 : decode cX0_isSlot 0 = .ok (.iload_n 1, 1) := by decide +kernel
theorem dX0_isSlot_1 : decode cX0_isSlot 1 = .ok (.ifCond .lt 22, 3) := by decide +kernel
theorem dX0_isSlot_4 : decode cX0_isSlot 4 = .ok (.iload_n 1, 1) := by decide +kernel
theorem dX0_isSlot_5 : decode cX0_isSlot 5 = .ok (.aload_n 0, 1) := by decide +kernel
theorem dX0_isSlot_6 : decode cX0_isSlot 6 = .ok (.getfield 22, 3) := by decide +kernel
theorem dX0_isSlot_9 : decode cX0_isSlot 9 = .ok (.if_icmp .ge 14, 3) := by decide +kernel
theorem dX0_isSlot_12 : decode cX0_isSlot 12 = .ok (.iload_n 1, 1) := by decide +kernel
theorem dX0_isSlot_13 : decode cX0_isSlot 13 = .ok (.sipush 315, 3) := by decide +kernel
theorem dX0_isSlot_16 : decode cX0_isSlot 16 = .ok (.if_icmp .ge 7, 3) := by decide +kernel
theorem dX0_isSlot_19 : decode cX0_isSlot 19 = .ok (.iconst 1, 1) := by decide +kernel
theorem dX0_isSlot_20 : decode cX0_isSlot 20 = .ok (.goto 4, 3) := by decide +kernel
theorem dX0_isSlot_23 : decode cX0_isSlot 23 = .ok (.iconst 0, 1) := by decide +kernel
theorem dX0_isSlot_24 : decode cX0_isSlot 24 = .ok (.ireturn, 1) := by decide +kernel
theorem dX0_find_0 : decode cX0_find 0 = .ok (.iconst 0, 1) := by decide +kernel
theorem dX0_find_1 : decode cX0_find 1 = .ok (.istore_n 2, 1) := by decide +kernel
theorem dX0_find_2 : decode cX0_find 2 = .ok (.iload_n 2, 1) := by decide +kernel
theorem dX0_find_3 : decode cX0_find 3 = .ok (.aload_n 0, 1) := by decide +kernel
theorem dX0_find_4 : decode cX0_find 4 = .ok (.getfield 22, 3) := by decide +kernel
theorem dX0_find_7 : decode cX0_find 7 = .ok (.if_icmp .ge 28, 3) := by decide +kernel
theorem dX0_find_10 : decode cX0_find 10 = .ok (.iload_n 2, 1) := by decide +kernel
theorem dX0_find_11 : decode cX0_find 11 = .ok (.sipush 315, 3) := by decide +kernel
theorem dX0_find_14 : decode cX0_find 14 = .ok (.if_icmp .ge 21, 3) := by decide +kernel
theorem dX0_find_17 : decode cX0_find 17 = .ok (.aload_n 0, 1) := by decide +kernel
theorem dX0_find_18 : decode cX0_find 18 = .ok (.getfield 9, 3) := by decide +kernel
theorem dX0_find_21 : decode cX0_find 21 = .ok (.iload_n 2, 1) := by decide +kernel
theorem dX0_find_22 : decode cX0_find 22 = .ok (.iaload, 1) := by decide +kernel
theorem dX0_find_23 : decode cX0_find 23 = .ok (.iload_n 1, 1) := by decide +kernel
theorem dX0_find_24 : decode cX0_find 24 = .ok (.if_icmp .ne 5, 3) := by decide +kernel
theorem dX0_find_27 : decode cX0_find 27 = .ok (.iload_n 2, 1) := by decide +kernel
theorem dX0_find_28 : decode cX0_find 28 = .ok (.ireturn, 1) := by decide +kernel
theorem dX0_find_29 : decode cX0_find 29 = .ok (.iinc 2 1, 3) := by decide +kernel
theorem dX0_find_32 : decode cX0_find 32 = .ok (.goto (-30), 3) := by decide +kernel
theorem dX0_find_35 : decode cX0_find 35 = .ok (.iconst (-1), 1) := by decide +kernel
theorem dX0_find_36 : decode cX0_find 36 = .ok (.ireturn, 1) := by decide +kernel
theorem dX0_numberIn_0 : decode cX0_numberIn 0 = .ok (.aload_n 0, 1) := by decide +kernel
theorem dX0_numberIn_1 : decode cX0_numberIn 1 = .ok (.iload_n 1, 1) := by decide +kernel
theorem dX0_numberIn_2 : decode cX0_numberIn 2 = .ok (.invokevirtual 26, 3) := by decide +kernel
theorem dX0_numberIn_5 : decode cX0_numberIn 5 = .ok (.ifCond .eq 12, 3) := by decide +kernel
theorem dX0_numberIn_8 : decode cX0_numberIn 8 = .ok (.aload_n 0, 1) := by decide +kernel
theorem dX0_numberIn_9 : decode cX0_numberIn 9 = .ok (.getfield 9, 3) := by decide +kernel
theorem dX0_numberIn_12 : decode cX0_numberIn 12 = .ok (.iload_n 1, 1) := by decide +kernel
theorem dX0_numberIn_13 : decode cX0_numberIn 13 = .ok (.iaload, 1) := by decide +kernel
theorem dX0_numberIn_14 : decode cX0_numberIn 14 = .ok (.goto 4, 3) := by decide +kernel
theorem dX0_numberIn_17 : decode cX0_numberIn 17 = .ok (.iconst (-1), 1) := by decide +kernel
theorem dX0_numberIn_18 : decode cX0_numberIn 18 = .ok (.ireturn, 1) := by decide +kernel
theorem dX0_namesOf_0 : decode cX0_namesOf 0 = .ok (.aload_n 0, 1) := by decide +kernel
theorem dX0_namesOf_1 : decode cX0_namesOf 1 = .ok (.iload_n 1, 1) := by decide +kernel
theorem dX0_namesOf_2 : decode cX0_namesOf 2 = .ok (.invokevirtual 26, 3) := by decide +kernel
theorem dX0_namesOf_5 : decode cX0_namesOf 5 = .ok (.ifCond .eq 12, 3) := by decide +kernel
theorem dX0_namesOf_8 : decode cX0_namesOf 8 = .ok (.aload_n 0, 1) := by decide +kernel
theorem dX0_namesOf_9 : decode cX0_namesOf 9 = .ok (.getfield 15, 3) := by decide +kernel
theorem dX0_namesOf_12 : decode cX0_namesOf 12 = .ok (.iload_n 1, 1) := by decide +kernel
theorem dX0_namesOf_13 : decode cX0_namesOf 13 = .ok (.iaload, 1) := by decide +kernel
theorem dX0_namesOf_14 : decode cX0_namesOf 14 = .ok (.goto 4, 3) := by decide +kernel
theorem dX0_namesOf_17 : decode cX0_namesOf 17 = .ok (.iconst 0, 1) := by decide +kernel
theorem dX0_namesOf_18 : decode cX0_namesOf 18 = .ok (.ireturn, 1) := by decide +kernel
theorem dX0_addName_0 : decode cX0_addName 0 = .ok (.aload_n 0, 1) := by decide +kernel
theorem dX0_addName_1 : decode cX0_addName 1 = .ok (.iload_n 1, 1) := by decide +kernel
theorem dX0_addName_2 : decode cX0_addName 2 = .ok (.invokevirtual 26, 3) := by decide +kernel
theorem dX0_addName_5 : decode cX0_addName 5 = .ok (.ifCond .eq 13, 3) := by decide +kernel
theorem dX0_addName_8 : decode cX0_addName 8 = .ok (.aload_n 0, 1) := by decide +kernel
theorem dX0_addName_9 : decode cX0_addName 9 = .ok (.getfield 15, 3) := by decide +kernel
theorem dX0_addName_12 : decode cX0_addName 12 = .ok (.iload_n 1, 1) := by decide +kernel
theorem dX0_addName_13 : decode cX0_addName 13 = .ok (.dup2, 1) := by decide +kernel
theorem dX0_addName_14 : decode cX0_addName 14 = .ok (.iaload, 1) := by decide +kernel
theorem dX0_addName_15 : decode cX0_addName 15 = .ok (.iload_n 2, 1) := by decide +kernel
theorem dX0_addName_16 : decode cX0_addName 16 = .ok (.iadd, 1) := by decide +kernel
theorem dX0_addName_17 : decode cX0_addName 17 = .ok (.iastore, 1) := by decide +kernel
theorem dX0_addName_18 : decode cX0_addName 18 = .ok (.return_, 1) := by decide +kernel
theorem dX0_edgesOf_0 : decode cX0_edgesOf 0 = .ok (.aload_n 0, 1) := by decide +kernel
theorem dX0_edgesOf_1 : decode cX0_edgesOf 1 = .ok (.iload_n 1, 1) := by decide +kernel
theorem dX0_edgesOf_2 : decode cX0_edgesOf 2 = .ok (.invokevirtual 26, 3) := by decide +kernel
theorem dX0_edgesOf_5 : decode cX0_edgesOf 5 = .ok (.ifCond .eq 27, 3) := by decide +kernel
theorem dX0_edgesOf_8 : decode cX0_edgesOf 8 = .ok (.iload_n 2, 1) := by decide +kernel
theorem dX0_edgesOf_9 : decode cX0_edgesOf 9 = .ok (.ifCond .lt 23, 3) := by decide +kernel
theorem dX0_edgesOf_12 : decode cX0_edgesOf 12 = .ok (.iload_n 2, 1) := by decide +kernel
theorem dX0_edgesOf_13 : decode cX0_edgesOf 13 = .ok (.bipush 8, 2) := by decide +kernel
theorem dX0_edgesOf_15 : decode cX0_edgesOf 15 = .ok (.if_icmp .ge 17, 3) := by decide +kernel
theorem dX0_edgesOf_18 : decode cX0_edgesOf 18 = .ok (.aload_n 0, 1) := by decide +kernel
theorem dX0_edgesOf_19 : decode cX0_edgesOf 19 = .ok (.getfield 18, 3) := by decide +kernel
theorem dX0_edgesOf_22 : decode cX0_edgesOf 22 = .ok (.iload_n 1, 1) := by decide +kernel
theorem dX0_edgesOf_23 : decode cX0_edgesOf 23 = .ok (.bipush 8, 2) := by decide +kernel
theorem dX0_edgesOf_25 : decode cX0_edgesOf 25 = .ok (.imul, 1) := by decide +kernel
theorem dX0_edgesOf_26 : decode cX0_edgesOf 26 = .ok (.iload_n 2, 1) := by decide +kernel
theorem dX0_edgesOf_27 : decode cX0_edgesOf 27 = .ok (.iadd, 1) := by decide +kernel
theorem dX0_edgesOf_28 : decode cX0_edgesOf 28 = .ok (.laload, 1) := by decide +kernel
theorem dX0_edgesOf_29 : decode cX0_edgesOf 29 = .ok (.goto 4, 3) := by decide +kernel
theorem dX0_edgesOf_32 : decode cX0_edgesOf 32 = .ok (.lconst 0, 1) := by decide +kernel
theorem dX0_edgesOf_33 : decode cX0_edgesOf 33 = .ok (.lreturn, 1) := by decide +kernel
theorem dX0_take_0 : decode cX0_take 0 = .ok (.aload_n 0, 1) := by decide +kernel
theorem dX0_take_1 : decode cX0_take 1 = .ok (.iload_n 1, 1) := by decide +kernel
theorem dX0_take_2 : decode cX0_take 2 = .ok (.invokevirtual 30, 3) := by decide +kernel
theorem dX0_take_5 : decode cX0_take 5 = .ok (.istore 4, 2) := by decide +kernel
theorem dX0_take_7 : decode cX0_take 7 = .ok (.iload 4, 2) := by decide +kernel
theorem dX0_take_9 : decode cX0_take 9 = .ok (.iconst (-1), 1) := by decide +kernel
theorem dX0_take_10 : decode cX0_take 10 = .ok (.if_icmp .ne 10, 3) := by decide +kernel
theorem dX0_take_13 : decode cX0_take 13 = .ok (.aload_n 0, 1) := by decide +kernel
theorem dX0_take_14 : decode cX0_take 14 = .ok (.iload_n 1, 1) := by decide +kernel
theorem dX0_take_15 : decode cX0_take 15 = .ok (.invokevirtual 34, 3) := by decide +kernel
theorem dX0_take_18 : decode cX0_take 18 = .ok (.istore 4, 2) := by decide +kernel
theorem dX0_take_20 : decode cX0_take 20 = .ok (.iconst 0, 1) := by decide +kernel
theorem dX0_take_21 : decode cX0_take 21 = .ok (.istore 5, 2) := by decide +kernel
theorem dX0_take_23 : decode cX0_take 23 = .ok (.iload 5, 2) := by decide +kernel
theorem dX0_take_25 : decode cX0_take 25 = .ok (.bipush 8, 2) := by decide +kernel
theorem dX0_take_27 : decode cX0_take 27 = .ok (.if_icmp .ge 44, 3) := by decide +kernel
theorem dX0_take_30 : decode cX0_take 30 = .ok (.aload_n 0, 1) := by decide +kernel
theorem dX0_take_31 : decode cX0_take 31 = .ok (.iload 4, 2) := by decide +kernel
theorem dX0_take_33 : decode cX0_take 33 = .ok (.invokevirtual 26, 3) := by decide +kernel
theorem dX0_take_36 : decode cX0_take 36 = .ok (.ifCond .eq 35, 3) := by decide +kernel
theorem dX0_take_39 : decode cX0_take 39 = .ok (.aload_n 0, 1) := by decide +kernel
theorem dX0_take_40 : decode cX0_take 40 = .ok (.getfield 18, 3) := by decide +kernel
theorem dX0_take_43 : decode cX0_take 43 = .ok (.iload 4, 2) := by decide +kernel
theorem dX0_take_45 : decode cX0_take 45 = .ok (.bipush 8, 2) := by decide +kernel
theorem dX0_take_47 : decode cX0_take 47 = .ok (.imul, 1) := by decide +kernel
theorem dX0_take_48 : decode cX0_take 48 = .ok (.iload 5, 2) := by decide +kernel
theorem dX0_take_50 : decode cX0_take 50 = .ok (.iadd, 1) := by decide +kernel
theorem dX0_take_51 : decode cX0_take 51 = .ok (.aload_n 2, 1) := by decide +kernel
theorem dX0_take_52 : decode cX0_take 52 = .ok (.iload_n 3, 1) := by decide +kernel
theorem dX0_take_53 : decode cX0_take 53 = .ok (.bipush 8, 2) := by decide +kernel
theorem dX0_take_55 : decode cX0_take 55 = .ok (.iload 5, 2) := by decide +kernel
theorem dX0_take_57 : decode cX0_take 57 = .ok (.imul, 1) := by decide +kernel
theorem dX0_take_58 : decode cX0_take 58 = .ok (.iadd, 1) := by decide +kernel
theorem dX0_take_59 : decode cX0_take 59 = .ok (.bipush 8, 2) := by decide +kernel
theorem dX0_take_61 : decode cX0_take 61 = .ok (.invokevirtual 37, 3) := by decide +kernel
theorem dX0_take_64 : decode cX0_take 64 = .ok (.lastore, 1) := by decide +kernel
theorem dX0_take_65 : decode cX0_take 65 = .ok (.iinc 5 1, 3) := by decide +kernel
theorem dX0_take_68 : decode cX0_take 68 = .ok (.goto (-45), 3) := by decide +kernel
theorem dX0_take_71 : decode cX0_take 71 = .ok (.return_, 1) := by decide +kernel
theorem dX0_addSlot_0 : decode cX0_addSlot 0 = .ok (.aload_n 0, 1) := by decide +kernel
theorem dX0_addSlot_1 : decode cX0_addSlot 1 = .ok (.getfield 22, 3) := by decide +kernel
theorem dX0_addSlot_4 : decode cX0_addSlot 4 = .ok (.ifCond .lt 13, 3) := by decide +kernel
theorem dX0_addSlot_7 : decode cX0_addSlot 7 = .ok (.aload_n 0, 1) := by decide +kernel
theorem dX0_addSlot_8 : decode cX0_addSlot 8 = .ok (.getfield 22, 3) := by decide +kernel
theorem dX0_addSlot_11 : decode cX0_addSlot 11 = .ok (.sipush 315, 3) := by decide +kernel
theorem dX0_addSlot_14 : decode cX0_addSlot 14 = .ok (.if_icmp .lt 5, 3) := by decide +kernel
theorem dX0_addSlot_17 : decode cX0_addSlot 17 = .ok (.iconst (-1), 1) := by decide +kernel
theorem dX0_addSlot_18 : decode cX0_addSlot 18 = .ok (.ireturn, 1) := by decide +kernel
theorem dX0_addSlot_19 : decode cX0_addSlot 19 = .ok (.aload_n 0, 1) := by decide +kernel
theorem dX0_addSlot_20 : decode cX0_addSlot 20 = .ok (.getfield 9, 3) := by decide +kernel
theorem dX0_addSlot_23 : decode cX0_addSlot 23 = .ok (.aload_n 0, 1) := by decide +kernel
theorem dX0_addSlot_24 : decode cX0_addSlot 24 = .ok (.getfield 22, 3) := by decide +kernel
theorem dX0_addSlot_27 : decode cX0_addSlot 27 = .ok (.iload_n 1, 1) := by decide +kernel
theorem dX0_addSlot_28 : decode cX0_addSlot 28 = .ok (.iastore, 1) := by decide +kernel
theorem dX0_addSlot_29 : decode cX0_addSlot 29 = .ok (.aload_n 0, 1) := by decide +kernel
theorem dX0_addSlot_30 : decode cX0_addSlot 30 = .ok (.getfield 15, 3) := by decide +kernel
theorem dX0_addSlot_33 : decode cX0_addSlot 33 = .ok (.aload_n 0, 1) := by decide +kernel
theorem dX0_addSlot_34 : decode cX0_addSlot 34 = .ok (.getfield 22, 3) := by decide +kernel
theorem dX0_addSlot_37 : decode cX0_addSlot 37 = .ok (.iconst 0, 1) := by decide +kernel
theorem dX0_addSlot_38 : decode cX0_addSlot 38 = .ok (.iastore, 1) := by decide +kernel
theorem dX0_addSlot_39 : decode cX0_addSlot 39 = .ok (.aload_n 0, 1) := by decide +kernel
theorem dX0_addSlot_40 : decode cX0_addSlot 40 = .ok (.dup, 1) := by decide +kernel
theorem dX0_addSlot_41 : decode cX0_addSlot 41 = .ok (.getfield 22, 3) := by decide +kernel
theorem dX0_addSlot_44 : decode cX0_addSlot 44 = .ok (.iconst 1, 1) := by decide +kernel
theorem dX0_addSlot_45 : decode cX0_addSlot 45 = .ok (.iadd, 1) := by decide +kernel
theorem dX0_addSlot_46 : decode cX0_addSlot 46 = .ok (.putfield 22, 3) := by decide +kernel
theorem dX0_addSlot_49 : decode cX0_addSlot 49 = .ok (.aload_n 0, 1) := by decide +kernel
theorem dX0_addSlot_50 : decode cX0_addSlot 50 = .ok (.getfield 22, 3) := by decide +kernel
theorem dX0_addSlot_53 : decode cX0_addSlot 53 = .ok (.iconst 1, 1) := by decide +kernel
theorem dX0_addSlot_54 : decode cX0_addSlot 54 = .ok (.isub, 1) := by decide +kernel
theorem dX0_addSlot_55 : decode cX0_addSlot 55 = .ok (.ireturn, 1) := by decide +kernel
theorem dX0_countNamed_0 : decode cX0_countNamed 0 = .ok (.iconst 0, 1) := by decide +kernel
theorem dX0_countNamed_1 : decode cX0_countNamed 1 = .ok (.istore_n 1, 1) := by decide +kernel
theorem dX0_countNamed_2 : decode cX0_countNamed 2 = .ok (.iconst 0, 1) := by decide +kernel
theorem dX0_countNamed_3 : decode cX0_countNamed 3 = .ok (.istore_n 2, 1) := by decide +kernel
theorem dX0_countNamed_4 : decode cX0_countNamed 4 = .ok (.iload_n 2, 1) := by decide +kernel
theorem dX0_countNamed_5 : decode cX0_countNamed 5 = .ok (.aload_n 0, 1) := by decide +kernel
theorem dX0_countNamed_6 : decode cX0_countNamed 6 = .ok (.getfield 22, 3) := by decide +kernel
theorem dX0_countNamed_9 : decode cX0_countNamed 9 = .ok (.if_icmp .ge 20, 3) := by decide +kernel
theorem dX0_countNamed_12 : decode cX0_countNamed 12 = .ok (.aload_n 0, 1) := by decide +kernel
theorem dX0_countNamed_13 : decode cX0_countNamed 13 = .ok (.iload_n 2, 1) := by decide +kernel
theorem dX0_countNamed_14 : decode cX0_countNamed 14 = .ok (.invokevirtual 43, 3) := by decide +kernel
theorem dX0_countNamed_17 : decode cX0_countNamed 17 = .ok (.ifCond .le 6, 3) := by decide +kernel
theorem dX0_countNamed_20 : decode cX0_countNamed 20 = .ok (.iinc 1 1, 3) := by decide +kernel
theorem dX0_countNamed_23 : decode cX0_countNamed 23 = .ok (.iinc 2 1, 3) := by decide +kernel
theorem dX0_countNamed_26 : decode cX0_countNamed 26 = .ok (.goto (-22), 3) := by decide +kernel
theorem dX0_countNamed_29 : decode cX0_countNamed 29 = .ok (.iload_n 1, 1) := by decide +kernel
theorem dX0_countNamed_30 : decode cX0_countNamed 30 = .ok (.ireturn, 1) := by decide +kernel
theorem dX0_namedAlike_0 : decode cX0_namedAlike 0 = .ok (.iconst (-1), 1) := by decide +kernel
theorem dX0_namedAlike_1 : decode cX0_namedAlike 1 = .ok (.istore_n 3, 1) := by decide +kernel
theorem dX0_namedAlike_2 : decode cX0_namedAlike 2 = .ok (.iconst 0, 1) := by decide +kernel
theorem dX0_namedAlike_3 : decode cX0_namedAlike 3 = .ok (.istore 4, 2) := by decide +kernel
theorem dX0_namedAlike_5 : decode cX0_namedAlike 5 = .ok (.iload 4, 2) := by decide +kernel
theorem dX0_namedAlike_7 : decode cX0_namedAlike 7 = .ok (.aload_n 0, 1) := by decide +kernel
theorem dX0_namedAlike_8 : decode cX0_namedAlike 8 = .ok (.getfield 22, 3) := by decide +kernel
theorem dX0_namedAlike_11 : decode cX0_namedAlike 11 = .ok (.if_icmp .ge 51, 3) := by decide +kernel
theorem dX0_namedAlike_14 : decode cX0_namedAlike 14 = .ok (.aload_n 0, 1) := by decide +kernel
theorem dX0_namedAlike_15 : decode cX0_namedAlike 15 = .ok (.iload 4, 2) := by decide +kernel
theorem dX0_namedAlike_17 : decode cX0_namedAlike 17 = .ok (.invokevirtual 46, 3) := by decide +kernel
theorem dX0_namedAlike_20 : decode cX0_namedAlike 20 = .ok (.istore 5, 2) := by decide +kernel
theorem dX0_namedAlike_22 : decode cX0_namedAlike 22 = .ok (.aload_n 0, 1) := by decide +kernel
theorem dX0_namedAlike_23 : decode cX0_namedAlike 23 = .ok (.iload 4, 2) := by decide +kernel
theorem dX0_namedAlike_25 : decode cX0_namedAlike 25 = .ok (.invokevirtual 43, 3) := by decide +kernel
theorem dX0_namedAlike_28 : decode cX0_namedAlike 28 = .ok (.ifCond .le 28, 3) := by decide +kernel
theorem dX0_namedAlike_31 : decode cX0_namedAlike 31 = .ok (.iload_n 3, 1) := by decide +kernel
theorem dX0_namedAlike_32 : decode cX0_namedAlike 32 = .ok (.iconst (-1), 1) := by decide +kernel
theorem dX0_namedAlike_33 : decode cX0_namedAlike 33 = .ok (.if_icmp .eq 9, 3) := by decide +kernel
theorem dX0_namedAlike_36 : decode cX0_namedAlike 36 = .ok (.iload 5, 2) := by decide +kernel
theorem dX0_namedAlike_38 : decode cX0_namedAlike 38 = .ok (.iload_n 3, 1) := by decide +kernel
theorem dX0_namedAlike_39 : decode cX0_namedAlike 39 = .ok (.if_icmp .ge 17, 3) := by decide +kernel
theorem dX0_namedAlike_42 : decode cX0_namedAlike 42 = .ok (.aload_n 0, 1) := by decide +kernel
theorem dX0_namedAlike_43 : decode cX0_namedAlike 43 = .ok (.iload 4, 2) := by decide +kernel
theorem dX0_namedAlike_45 : decode cX0_namedAlike 45 = .ok (.aload_n 1, 1) := by decide +kernel
theorem dX0_namedAlike_46 : decode cX0_namedAlike 46 = .ok (.iload_n 2, 1) := by decide +kernel
theorem dX0_namedAlike_47 : decode cX0_namedAlike 47 = .ok (.invokevirtual 49, 3) := by decide +kernel
theorem dX0_namedAlike_50 : decode cX0_namedAlike 50 = .ok (.ifCond .eq 6, 3) := by decide +kernel
theorem dX0_namedAlike_53 : decode cX0_namedAlike 53 = .ok (.iload 5, 2) := by decide +kernel
theorem dX0_namedAlike_55 : decode cX0_namedAlike 55 = .ok (.istore_n 3, 1) := by decide +kernel
theorem dX0_namedAlike_56 : decode cX0_namedAlike 56 = .ok (.iinc 4 1, 3) := by decide +kernel
theorem dX0_namedAlike_59 : decode cX0_namedAlike 59 = .ok (.goto (-54), 3) := by decide +kernel
theorem dX0_namedAlike_62 : decode cX0_namedAlike 62 = .ok (.iload_n 3, 1) := by decide +kernel
theorem dX0_namedAlike_63 : decode cX0_namedAlike 63 = .ok (.ireturn, 1) := by decide +kernel
theorem dX0_isAlike_0 : decode cX0_isAlike 0 = .ok (.iconst 0, 1) := by decide +kernel
theorem dX0_isAlike_1 : decode cX0_isAlike 1 = .ok (.istore 4, 2) := by decide +kernel
theorem dX0_isAlike_3 : decode cX0_isAlike 3 = .ok (.iload 4, 2) := by decide +kernel
theorem dX0_isAlike_5 : decode cX0_isAlike 5 = .ok (.bipush 8, 2) := by decide +kernel
theorem dX0_isAlike_7 : decode cX0_isAlike 7 = .ok (.if_icmp .ge 33, 3) := by decide +kernel
theorem dX0_isAlike_10 : decode cX0_isAlike 10 = .ok (.aload_n 0, 1) := by decide +kernel
theorem dX0_isAlike_11 : decode cX0_isAlike 11 = .ok (.iload_n 1, 1) := by decide +kernel
theorem dX0_isAlike_12 : decode cX0_isAlike 12 = .ok (.iload 4, 2) := by decide +kernel
theorem dX0_isAlike_14 : decode cX0_isAlike 14 = .ok (.invokevirtual 53, 3) := by decide +kernel
theorem dX0_isAlike_17 : decode cX0_isAlike 17 = .ok (.aload_n 2, 1) := by decide +kernel
theorem dX0_isAlike_18 : decode cX0_isAlike 18 = .ok (.iload_n 3, 1) := by decide +kernel
theorem dX0_isAlike_19 : decode cX0_isAlike 19 = .ok (.bipush 8, 2) := by decide +kernel
theorem dX0_isAlike_21 : decode cX0_isAlike 21 = .ok (.imul, 1) := by decide +kernel
theorem dX0_isAlike_22 : decode cX0_isAlike 22 = .ok (.iload 4, 2) := by decide +kernel
theorem dX0_isAlike_24 : decode cX0_isAlike 24 = .ok (.iadd, 1) := by decide +kernel
theorem dX0_isAlike_25 : decode cX0_isAlike 25 = .ok (.invokevirtual 56, 3) := by decide +kernel
theorem dX0_isAlike_28 : decode cX0_isAlike 28 = .ok (.lcmp, 1) := by decide +kernel
theorem dX0_isAlike_29 : decode cX0_isAlike 29 = .ok (.ifCond .eq 5, 3) := by decide +kernel
theorem dX0_isAlike_32 : decode cX0_isAlike 32 = .ok (.iconst 0, 1) := by decide +kernel
theorem dX0_isAlike_33 : decode cX0_isAlike 33 = .ok (.ireturn, 1) := by decide +kernel
theorem dX0_isAlike_34 : decode cX0_isAlike 34 = .ok (.iinc 4 1, 3) := by decide +kernel
theorem dX0_isAlike_37 : decode cX0_isAlike 37 = .ok (.goto (-34), 3) := by decide +kernel
theorem dX0_isAlike_40 : decode cX0_isAlike 40 = .ok (.iconst 1, 1) := by decide +kernel
theorem dX0_isAlike_41 : decode cX0_isAlike 41 = .ok (.ireturn, 1) := by decide +kernel
theorem dX0_markNamed_0 : decode cX0_markNamed 0 = .ok (.iconst 0, 1) := by decide +kernel
theorem dX0_markNamed_1 : decode cX0_markNamed 1 = .ok (.istore_n 2, 1) := by decide +kernel
theorem dX0_markNamed_2 : decode cX0_markNamed 2 = .ok (.iload_n 2, 1) := by decide +kernel
theorem dX0_markNamed_3 : decode cX0_markNamed 3 = .ok (.aload_n 1, 1) := by decide +kernel
theorem dX0_markNamed_4 : decode cX0_markNamed 4 = .ok (.arraylength, 1) := by decide +kernel
theorem dX0_markNamed_5 : decode cX0_markNamed 5 = .ok (.if_icmp .ge 13, 3) := by decide +kernel
theorem dX0_markNamed_8 : decode cX0_markNamed 8 = .ok (.aload_n 1, 1) := by decide +kernel
theorem dX0_markNamed_9 : decode cX0_markNamed 9 = .ok (.iload_n 2, 1) := by decide +kernel
theorem dX0_markNamed_10 : decode cX0_markNamed 10 = .ok (.iconst 0, 1) := by decide +kernel
theorem dX0_markNamed_11 : decode cX0_markNamed 11 = .ok (.bastore, 1) := by decide +kernel
theorem dX0_markNamed_12 : decode cX0_markNamed 12 = .ok (.iinc 2 1, 3) := by decide +kernel
theorem dX0_markNamed_15 : decode cX0_markNamed 15 = .ok (.goto (-13), 3) := by decide +kernel
theorem dX0_markNamed_18 : decode cX0_markNamed 18 = .ok (.iconst 0, 1) := by decide +kernel
theorem dX0_markNamed_19 : decode cX0_markNamed 19 = .ok (.istore_n 2, 1) := by decide +kernel
theorem dX0_markNamed_20 : decode cX0_markNamed 20 = .ok (.iload_n 2, 1) := by decide +kernel
theorem dX0_markNamed_21 : decode cX0_markNamed 21 = .ok (.aload_n 0, 1) := by decide +kernel
theorem dX0_markNamed_22 : decode cX0_markNamed 22 = .ok (.getfield 22, 3) := by decide +kernel
theorem dX0_markNamed_25 : decode cX0_markNamed 25 = .ok (.if_icmp .ge 37, 3) := by decide +kernel
theorem dX0_markNamed_28 : decode cX0_markNamed 28 = .ok (.aload_n 0, 1) := by decide +kernel
theorem dX0_markNamed_29 : decode cX0_markNamed 29 = .ok (.iload_n 2, 1) := by decide +kernel
theorem dX0_markNamed_30 : decode cX0_markNamed 30 = .ok (.invokevirtual 46, 3) := by decide +kernel
theorem dX0_markNamed_33 : decode cX0_markNamed 33 = .ok (.istore_n 3, 1) := by decide +kernel
theorem dX0_markNamed_34 : decode cX0_markNamed 34 = .ok (.aload_n 0, 1) := by decide +kernel
theorem dX0_markNamed_35 : decode cX0_markNamed 35 = .ok (.iload_n 2, 1) := by decide +kernel
theorem dX0_markNamed_36 : decode cX0_markNamed 36 = .ok (.invokevirtual 43, 3) := by decide +kernel
theorem dX0_markNamed_39 : decode cX0_markNamed 39 = .ok (.ifCond .le 17, 3) := by decide +kernel
theorem dX0_markNamed_42 : decode cX0_markNamed 42 = .ok (.iload_n 3, 1) := by decide +kernel
theorem dX0_markNamed_43 : decode cX0_markNamed 43 = .ok (.ifCond .lt 13, 3) := by decide +kernel
theorem dX0_markNamed_46 : decode cX0_markNamed 46 = .ok (.iload_n 3, 1) := by decide +kernel
theorem dX0_markNamed_47 : decode cX0_markNamed 47 = .ok (.aload_n 1, 1) := by decide +kernel
theorem dX0_markNamed_48 : decode cX0_markNamed 48 = .ok (.arraylength, 1) := by decide +kernel
theorem dX0_markNamed_49 : decode cX0_markNamed 49 = .ok (.if_icmp .ge 7, 3) := by decide +kernel
theorem dX0_markNamed_52 : decode cX0_markNamed 52 = .ok (.aload_n 1, 1) := by decide +kernel
theorem dX0_markNamed_53 : decode cX0_markNamed 53 = .ok (.iload_n 3, 1) := by decide +kernel
theorem dX0_markNamed_54 : decode cX0_markNamed 54 = .ok (.iconst 1, 1) := by decide +kernel
theorem dX0_markNamed_55 : decode cX0_markNamed 55 = .ok (.bastore, 1) := by decide +kernel
theorem dX0_markNamed_56 : decode cX0_markNamed 56 = .ok (.iinc 2 1, 3) := by decide +kernel
theorem dX0_markNamed_59 : decode cX0_markNamed 59 = .ok (.goto (-39), 3) := by decide +kernel
theorem dX0_markNamed_62 : decode cX0_markNamed 62 = .ok (.return_, 1) := by decide +kernel
theorem dX1_init_0 : decode cX1_init 0 = .ok (.aload_n 0, 1) := by decide +kernel
theorem dX1_init_1 : decode cX1_init 1 = .ok (.invokespecial 3, 3) := by decide +kernel
theorem dX1_init_4 : decode cX1_init 4 = .ok (.aload_n 0, 1) := by decide +kernel
theorem dX1_init_5 : decode cX1_init 5 = .ok (.sipush 24032, 3) := by decide +kernel
theorem dX1_init_8 : decode cX1_init 8 = .ok (.newarray .byte, 2) := by decide +kernel
theorem dX1_init_10 : decode cX1_init 10 = .ok (.putfield 9, 3) := by decide +kernel
theorem dX1_init_13 : decode cX1_init 13 = .ok (.aload_n 0, 1) := by decide +kernel
theorem dX1_init_14 : decode cX1_init 14 = .ok (.sipush 32192, 3) := by decide +kernel
theorem dX1_init_17 : decode cX1_init 17 = .ok (.newarray .int, 2) := by decide +kernel
theorem dX1_init_19 : decode cX1_init 19 = .ok (.putfield 15, 3) := by decide +kernel
theorem dX1_init_22 : decode cX1_init 22 = .ok (.return_, 1) := by decide +kernel
theorem dX1_clear_0 : decode cX1_clear 0 = .ok (.aload_n 0, 1) := by decide +kernel
theorem dX1_clear_1 : decode cX1_clear 1 = .ok (.getfield 9, 3) := by decide +kernel
theorem dX1_clear_4 : decode cX1_clear 4 = .ok (.iconst 0, 1) := by decide +kernel
theorem dX1_clear_5 : decode cX1_clear 5 = .ok (.invokestatic 19, 3) := by decide +kernel
theorem dX1_clear_8 : decode cX1_clear 8 = .ok (.return_, 1) := by decide +kernel
theorem dX1_forgetWritten_0 : decode cX1_forgetWritten 0 = .ok (.aload_n 0, 1) := by decide +kernel
theorem dX1_forgetWritten_1 : decode cX1_forgetWritten 1 = .ok (.iconst 0, 1) := by decide +kernel
theorem dX1_forgetWritten_2 : decode cX1_forgetWritten 2 = .ok (.putfield 25, 3) := by decide +kernel
theorem dX1_forgetWritten_5 : decode cX1_forgetWritten 5 = .ok (.return_, 1) := by decide +kernel
theorem dX1_goTo_0 : decode cX1_goTo 0 = .ok (.aload_n 0, 1) := by decide +kernel
theorem dX1_goTo_1 : decode cX1_goTo 1 = .ok (.iload_n 1, 1) := by decide +kernel
theorem dX1_goTo_2 : decode cX1_goTo 2 = .ok (.putfield 29, 3) := by decide +kernel
theorem dX1_goTo_5 : decode cX1_goTo 5 = .ok (.return_, 1) := by decide +kernel
theorem dX1_get_0 : decode cX1_get 0 = .ok (.iload_n 1, 1) := by decide +kernel
theorem dX1_get_1 : decode cX1_get 1 = .ok (.ifCond .lt 12, 3) := by decide +kernel
theorem dX1_get_4 : decode cX1_get 4 = .ok (.iload_n 1, 1) := by decide +kernel
theorem dX1_get_5 : decode cX1_get 5 = .ok (.aload_n 0, 1) := by decide +kernel
theorem dX1_get_6 : decode cX1_get 6 = .ok (.getfield 9, 3) := by decide +kernel
theorem dX1_get_9 : decode cX1_get 9 = .ok (.arraylength, 1) := by decide +kernel
theorem dX1_get_10 : decode cX1_get 10 = .ok (.if_icmp .lt 7, 3) := by decide +kernel
theorem dX1_get_13 : decode cX1_get 13 = .ok (.iconst 0, 1) := by decide +kernel
theorem dX1_get_14 : decode cX1_get 14 = .ok (.goto 13, 3) := by decide +kernel
theorem dX1_get_17 : decode cX1_get 17 = .ok (.aload_n 0, 1) := by decide +kernel
theorem dX1_get_18 : decode cX1_get 18 = .ok (.getfield 9, 3) := by decide +kernel
theorem dX1_get_21 : decode cX1_get 21 = .ok (.iload_n 1, 1) := by decide +kernel
theorem dX1_get_22 : decode cX1_get 22 = .ok (.baload, 1) := by decide +kernel
theorem dX1_get_23 : decode cX1_get 23 = .ok (.sipush 255, 3) := by decide +kernel
theorem dX1_get_26 : decode cX1_get 26 = .ok (.iand, 1) := by decide +kernel
theorem dX1_get_27 : decode cX1_get 27 = .ok (.ireturn, 1) := by decide +kernel
theorem dX1_set_0 : decode cX1_set 0 = .ok (.iload_n 1, 1) := by decide +kernel
theorem dX1_set_1 : decode cX1_set 1 = .ok (.ifCond .lt 20, 3) := by decide +kernel
theorem dX1_set_4 : decode cX1_set 4 = .ok (.iload_n 1, 1) := by decide +kernel
theorem dX1_set_5 : decode cX1_set 5 = .ok (.aload_n 0, 1) := by decide +kernel
theorem dX1_set_6 : decode cX1_set 6 = .ok (.getfield 9, 3) := by decide +kernel
theorem dX1_set_9 : decode cX1_set 9 = .ok (.arraylength, 1) := by decide +kernel
theorem dX1_set_10 : decode cX1_set 10 = .ok (.if_icmp .ge 11, 3) := by decide +kernel
theorem dX1_set_13 : decode cX1_set 13 = .ok (.aload_n 0, 1) := by decide +kernel
theorem dX1_set_14 : decode cX1_set 14 = .ok (.getfield 9, 3) := by decide +kernel
theorem dX1_set_17 : decode cX1_set 17 = .ok (.iload_n 1, 1) := by decide +kernel
theorem dX1_set_18 : decode cX1_set 18 = .ok (.iload_n 2, 1) := by decide +kernel
theorem dX1_set_19 : decode cX1_set 19 = .ok (.i2b, 1) := by decide +kernel
theorem dX1_set_20 : decode cX1_set 20 = .ok (.bastore, 1) := by decide +kernel
theorem dX1_set_21 : decode cX1_set 21 = .ok (.return_, 1) := by decide +kernel
theorem dX1_number_0 : decode cX1_number 0 = .ok (.lconst 0, 1) := by decide +kernel
theorem dX1_number_1 : decode cX1_number 1 = .ok (.lstore_n 3, 1) := by decide +kernel
theorem dX1_number_2 : decode cX1_number 2 = .ok (.iconst 0, 1) := by decide +kernel
theorem dX1_number_3 : decode cX1_number 3 = .ok (.istore 5, 2) := by decide +kernel
theorem dX1_number_5 : decode cX1_number 5 = .ok (.iload 5, 2) := by decide +kernel
theorem dX1_number_7 : decode cX1_number 7 = .ok (.iload_n 2, 1) := by decide +kernel
theorem dX1_number_8 : decode cX1_number 8 = .ok (.if_icmp .ge 24, 3) := by decide +kernel
theorem dX1_number_11 : decode cX1_number 11 = .ok (.lload_n 3, 1) := by decide +kernel
theorem dX1_number_12 : decode cX1_number 12 = .ok (.bipush 8, 2) := by decide +kernel
theorem dX1_number_14 : decode cX1_number 14 = .ok (.lshl, 1) := by decide +kernel
theorem dX1_number_15 : decode cX1_number 15 = .ok (.aload_n 0, 1) := by decide +kernel
theorem dX1_number_16 : decode cX1_number 16 = .ok (.iload_n 1, 1) := by decide +kernel
theorem dX1_number_17 : decode cX1_number 17 = .ok (.iload 5, 2) := by decide +kernel
theorem dX1_number_19 : decode cX1_number 19 = .ok (.iadd, 1) := by decide +kernel
theorem dX1_number_20 : decode cX1_number 20 = .ok (.invokevirtual 32, 3) := by decide +kernel
theorem dX1_number_23 : decode cX1_number 23 = .ok (.i2l, 1) := by decide +kernel
theorem dX1_number_24 : decode cX1_number 24 = .ok (.lor, 1) := by decide +kernel
theorem dX1_number_25 : decode cX1_number 25 = .ok (.lstore_n 3, 1) := by decide +kernel
theorem dX1_number_26 : decode cX1_number 26 = .ok (.iinc 5 1, 3) := by decide +kernel
theorem dX1_number_29 : decode cX1_number 29 = .ok (.goto (-24), 3) := by decide +kernel
theorem dX1_number_32 : decode cX1_number 32 = .ok (.lload_n 3, 1) := by decide +kernel
theorem dX1_number_33 : decode cX1_number 33 = .ok (.lreturn, 1) := by decide +kernel
theorem dX1_write_0 : decode cX1_write 0 = .ok (.iload_n 3, 1) := by decide +kernel
theorem dX1_write_1 : decode cX1_write 1 = .ok (.iconst 1, 1) := by decide +kernel
theorem dX1_write_2 : decode cX1_write 2 = .ok (.isub, 1) := by decide +kernel
theorem dX1_write_3 : decode cX1_write 3 = .ok (.istore 4, 2) := by decide +kernel
theorem dX1_write_5 : decode cX1_write 5 = .ok (.iload 4, 2) := by decide +kernel
theorem dX1_write_7 : decode cX1_write 7 = .ok (.ifCond .lt 25, 3) := by decide +kernel
theorem dX1_write_10 : decode cX1_write 10 = .ok (.aload_n 0, 1) := by decide +kernel
theorem dX1_write_11 : decode cX1_write 11 = .ok (.lload_n 1, 1) := by decide +kernel
theorem dX1_write_12 : decode cX1_write 12 = .ok (.bipush 8, 2) := by decide +kernel
theorem dX1_write_14 : decode cX1_write 14 = .ok (.iload 4, 2) := by decide +kernel
theorem dX1_write_16 : decode cX1_write 16 = .ok (.imul, 1) := by decide +kernel
theorem dX1_write_17 : decode cX1_write 17 = .ok (.lushr, 1) := by decide +kernel
theorem dX1_write_18 : decode cX1_write 18 = .ok (.l2i, 1) := by decide +kernel
theorem dX1_write_19 : decode cX1_write 19 = .ok (.sipush 255, 3) := by decide +kernel
theorem dX1_write_22 : decode cX1_write 22 = .ok (.iand, 1) := by decide +kernel
theorem dX1_write_23 : decode cX1_write 23 = .ok (.invokevirtual 36, 3) := by decide +kernel
theorem dX1_write_26 : decode cX1_write 26 = .ok (.iinc 4 (-1), 3) := by decide +kernel
theorem dX1_write_29 : decode cX1_write 29 = .ok (.goto (-24), 3) := by decide +kernel
theorem dX1_write_32 : decode cX1_write 32 = .ok (.return_, 1) := by decide +kernel
theorem dX1_writeByte_0 : decode cX1_writeByte 0 = .ok (.aload_n 0, 1) := by decide +kernel
theorem dX1_writeByte_1 : decode cX1_writeByte 1 = .ok (.getfield 25, 3) := by decide +kernel
theorem dX1_writeByte_4 : decode cX1_writeByte 4 = .ok (.aload_n 0, 1) := by decide +kernel
theorem dX1_writeByte_5 : decode cX1_writeByte 5 = .ok (.getfield 15, 3) := by decide +kernel
theorem dX1_writeByte_8 : decode cX1_writeByte 8 = .ok (.arraylength, 1) := by decide +kernel
theorem dX1_writeByte_9 : decode cX1_writeByte 9 = .ok (.if_icmp .ge 38, 3) := by decide +kernel
theorem dX1_writeByte_12 : decode cX1_writeByte 12 = .ok (.aload_n 0, 1) := by decide +kernel
theorem dX1_writeByte_13 : decode cX1_writeByte 13 = .ok (.getfield 15, 3) := by decide +kernel
theorem dX1_writeByte_16 : decode cX1_writeByte 16 = .ok (.aload_n 0, 1) := by decide +kernel
theorem dX1_writeByte_17 : decode cX1_writeByte 17 = .ok (.getfield 25, 3) := by decide +kernel
theorem dX1_writeByte_20 : decode cX1_writeByte 20 = .ok (.aload_n 0, 1) := by decide +kernel
theorem dX1_writeByte_21 : decode cX1_writeByte 21 = .ok (.getfield 29, 3) := by decide +kernel
theorem dX1_writeByte_24 : decode cX1_writeByte 24 = .ok (.bipush 8, 2) := by decide +kernel
theorem dX1_writeByte_26 : decode cX1_writeByte 26 = .ok (.ishl, 1) := by decide +kernel
theorem dX1_writeByte_27 : decode cX1_writeByte 27 = .ok (.aload_n 0, 1) := by decide +kernel
theorem dX1_writeByte_28 : decode cX1_writeByte 28 = .ok (.aload_n 0, 1) := by decide +kernel
theorem dX1_writeByte_29 : decode cX1_writeByte 29 = .ok (.getfield 29, 3) := by decide +kernel
theorem dX1_writeByte_32 : decode cX1_writeByte 32 = .ok (.invokevirtual 32, 3) := by decide +kernel
theorem dX1_writeByte_35 : decode cX1_writeByte 35 = .ok (.ior, 1) := by decide +kernel
theorem dX1_writeByte_36 : decode cX1_writeByte 36 = .ok (.iastore, 1) := by decide +kernel
theorem dX1_writeByte_37 : decode cX1_writeByte 37 = .ok (.aload_n 0, 1) := by decide +kernel
theorem dX1_writeByte_38 : decode cX1_writeByte 38 = .ok (.dup, 1) := by decide +kernel
theorem dX1_writeByte_39 : decode cX1_writeByte 39 = .ok (.getfield 25, 3) := by decide +kernel
theorem dX1_writeByte_42 : decode cX1_writeByte 42 = .ok (.iconst 1, 1) := by decide +kernel
theorem dX1_writeByte_43 : decode cX1_writeByte 43 = .ok (.iadd, 1) := by decide +kernel
theorem dX1_writeByte_44 : decode cX1_writeByte 44 = .ok (.putfield 25, 3) := by decide +kernel
theorem dX1_writeByte_47 : decode cX1_writeByte 47 = .ok (.aload_n 0, 1) := by decide +kernel
theorem dX1_writeByte_48 : decode cX1_writeByte 48 = .ok (.aload_n 0, 1) := by decide +kernel
theorem dX1_writeByte_49 : decode cX1_writeByte 49 = .ok (.getfield 29, 3) := by decide +kernel
theorem dX1_writeByte_52 : decode cX1_writeByte 52 = .ok (.iload_n 1, 1) := by decide +kernel
theorem dX1_writeByte_53 : decode cX1_writeByte 53 = .ok (.invokevirtual 40, 3) := by decide +kernel
theorem dX1_writeByte_56 : decode cX1_writeByte 56 = .ok (.aload_n 0, 1) := by decide +kernel
theorem dX1_writeByte_57 : decode cX1_writeByte 57 = .ok (.dup, 1) := by decide +kernel
theorem dX1_writeByte_58 : decode cX1_writeByte 58 = .ok (.getfield 29, 3) := by decide +kernel
theorem dX1_writeByte_61 : decode cX1_writeByte 61 = .ok (.iconst 1, 1) := by decide +kernel
theorem dX1_writeByte_62 : decode cX1_writeByte 62 = .ok (.iadd, 1) := by decide +kernel
theorem dX1_writeByte_63 : decode cX1_writeByte 63 = .ok (.putfield 29, 3) := by decide +kernel
theorem dX1_writeByte_66 : decode cX1_writeByte 66 = .ok (.return_, 1) := by decide +kernel
theorem dX1_takeBack_0 : decode cX1_takeBack 0 = .ok (.iload_n 1, 1) := by decide +kernel
theorem dX1_takeBack_1 : decode cX1_takeBack 1 = .ok (.ifCond .ge 7, 3) := by decide +kernel
theorem dX1_takeBack_4 : decode cX1_takeBack 4 = .ok (.iconst 0, 1) := by decide +kernel
theorem dX1_takeBack_5 : decode cX1_takeBack 5 = .ok (.goto 11, 3) := by decide +kernel
theorem dX1_takeBack_8 : decode cX1_takeBack 8 = .ok (.iload_n 1, 1) := by decide +kernel
theorem dX1_takeBack_9 : decode cX1_takeBack 9 = .ok (.aload_n 0, 1) := by decide +kernel
theorem dX1_takeBack_10 : decode cX1_takeBack 10 = .ok (.getfield 25, 3) := by decide +kernel
theorem dX1_takeBack_13 : decode cX1_takeBack 13 = .ok (.invokestatic 44, 3) := by decide +kernel
theorem dX1_takeBack_16 : decode cX1_takeBack 16 = .ok (.istore_n 2, 1) := by decide +kernel
theorem dX1_takeBack_17 : decode cX1_takeBack 17 = .ok (.iconst 0, 1) := by decide +kernel
theorem dX1_takeBack_18 : decode cX1_takeBack 18 = .ok (.istore_n 3, 1) := by decide +kernel
theorem dX1_takeBack_19 : decode cX1_takeBack 19 = .ok (.iload_n 3, 1) := by decide +kernel
theorem dX1_takeBack_20 : decode cX1_takeBack 20 = .ok (.iload_n 2, 1) := by decide +kernel
theorem dX1_takeBack_21 : decode cX1_takeBack 21 = .ok (.if_icmp .ge 67, 3) := by decide +kernel
theorem dX1_takeBack_24 : decode cX1_takeBack 24 = .ok (.aload_n 0, 1) := by decide +kernel
theorem dX1_takeBack_25 : decode cX1_takeBack 25 = .ok (.getfield 25, 3) := by decide +kernel
theorem dX1_takeBack_28 : decode cX1_takeBack 28 = .ok (.ifCond .le 60, 3) := by decide +kernel
theorem dX1_takeBack_31 : decode cX1_takeBack 31 = .ok (.aload_n 0, 1) := by decide +kernel
theorem dX1_takeBack_32 : decode cX1_takeBack 32 = .ok (.getfield 25, 3) := by decide +kernel
theorem dX1_takeBack_35 : decode cX1_takeBack 35 = .ok (.aload_n 0, 1) := by decide +kernel
theorem dX1_takeBack_36 : decode cX1_takeBack 36 = .ok (.getfield 15, 3) := by decide +kernel
theorem dX1_takeBack_39 : decode cX1_takeBack 39 = .ok (.arraylength, 1) := by decide +kernel
theorem dX1_takeBack_40 : decode cX1_takeBack 40 = .ok (.if_icmp .gt 48, 3) := by decide +kernel
theorem dX1_takeBack_43 : decode cX1_takeBack 43 = .ok (.aload_n 0, 1) := by decide +kernel
theorem dX1_takeBack_44 : decode cX1_takeBack 44 = .ok (.dup, 1) := by decide +kernel
theorem dX1_takeBack_45 : decode cX1_takeBack 45 = .ok (.getfield 25, 3) := by decide +kernel
theorem dX1_takeBack_48 : decode cX1_takeBack 48 = .ok (.iconst 1, 1) := by decide +kernel
theorem dX1_takeBack_49 : decode cX1_takeBack 49 = .ok (.isub, 1) := by decide +kernel
theorem dX1_takeBack_50 : decode cX1_takeBack 50 = .ok (.putfield 25, 3) := by decide +kernel
theorem dX1_takeBack_53 : decode cX1_takeBack 53 = .ok (.aload_n 0, 1) := by decide +kernel
theorem dX1_takeBack_54 : decode cX1_takeBack 54 = .ok (.aload_n 0, 1) := by decide +kernel
theorem dX1_takeBack_55 : decode cX1_takeBack 55 = .ok (.getfield 15, 3) := by decide +kernel
theorem dX1_takeBack_58 : decode cX1_takeBack 58 = .ok (.aload_n 0, 1) := by decide +kernel
theorem dX1_takeBack_59 : decode cX1_takeBack 59 = .ok (.getfield 25, 3) := by decide +kernel
theorem dX1_takeBack_62 : decode cX1_takeBack 62 = .ok (.iaload, 1) := by decide +kernel
theorem dX1_takeBack_63 : decode cX1_takeBack 63 = .ok (.bipush 8, 2) := by decide +kernel
theorem dX1_takeBack_65 : decode cX1_takeBack 65 = .ok (.iushr, 1) := by decide +kernel
theorem dX1_takeBack_66 : decode cX1_takeBack 66 = .ok (.aload_n 0, 1) := by decide +kernel
theorem dX1_takeBack_67 : decode cX1_takeBack 67 = .ok (.getfield 15, 3) := by decide +kernel
theorem dX1_takeBack_70 : decode cX1_takeBack 70 = .ok (.aload_n 0, 1) := by decide +kernel
theorem dX1_takeBack_71 : decode cX1_takeBack 71 = .ok (.getfield 25, 3) := by decide +kernel
theorem dX1_takeBack_74 : decode cX1_takeBack 74 = .ok (.iaload, 1) := by decide +kernel
theorem dX1_takeBack_75 : decode cX1_takeBack 75 = .ok (.sipush 255, 3) := by decide +kernel
theorem dX1_takeBack_78 : decode cX1_takeBack 78 = .ok (.iand, 1) := by decide +kernel
theorem dX1_takeBack_79 : decode cX1_takeBack 79 = .ok (.invokevirtual 40, 3) := by decide +kernel
theorem dX1_takeBack_82 : decode cX1_takeBack 82 = .ok (.iinc 3 1, 3) := by decide +kernel
theorem dX1_takeBack_85 : decode cX1_takeBack 85 = .ok (.goto (-66), 3) := by decide +kernel
theorem dX1_takeBack_88 : decode cX1_takeBack 88 = .ok (.iload_n 2, 1) := by decide +kernel
theorem dX1_takeBack_89 : decode cX1_takeBack 89 = .ok (.ireturn, 1) := by decide +kernel
theorem dX1_sum_0 : decode cX1_sum 0 = .ok (.lload_n 3, 1) := by decide +kernel
theorem dX1_sum_1 : decode cX1_sum 1 = .ok (.lstore 5, 2) := by decide +kernel
theorem dX1_sum_3 : decode cX1_sum 3 = .ok (.iload_n 2, 1) := by decide +kernel
theorem dX1_sum_4 : decode cX1_sum 4 = .ok (.aload_n 0, 1) := by decide +kernel
theorem dX1_sum_5 : decode cX1_sum 5 = .ok (.getfield 9, 3) := by decide +kernel
theorem dX1_sum_8 : decode cX1_sum 8 = .ok (.arraylength, 1) := by decide +kernel
theorem dX1_sum_9 : decode cX1_sum 9 = .ok (.invokestatic 44, 3) := by decide +kernel
theorem dX1_sum_12 : decode cX1_sum 12 = .ok (.istore 7, 2) := by decide +kernel
theorem dX1_sum_14 : decode cX1_sum 14 = .ok (.iload_n 1, 1) := by decide +kernel
theorem dX1_sum_15 : decode cX1_sum 15 = .ok (.iconst 0, 1) := by decide +kernel
theorem dX1_sum_16 : decode cX1_sum 16 = .ok (.invokestatic 50, 3) := by decide +kernel
theorem dX1_sum_19 : decode cX1_sum 19 = .ok (.istore 8, 2) := by decide +kernel
theorem dX1_sum_21 : decode cX1_sum 21 = .ok (.iload 8, 2) := by decide +kernel
theorem dX1_sum_23 : decode cX1_sum 23 = .ok (.iload 7, 2) := by decide +kernel
theorem dX1_sum_25 : decode cX1_sum 25 = .ok (.if_icmp .ge 43, 3) := by decide +kernel
theorem dX1_sum_28 : decode cX1_sum 28 = .ok (.lload 5, 2) := by decide +kernel
theorem dX1_sum_30 : decode cX1_sum 30 = .ok (.aload_n 0, 1) := by decide +kernel
theorem dX1_sum_31 : decode cX1_sum 31 = .ok (.getfield 9, 3) := by decide +kernel
theorem dX1_sum_34 : decode cX1_sum 34 = .ok (.iload 8, 2) := by decide +kernel
theorem dX1_sum_36 : decode cX1_sum 36 = .ok (.baload, 1) := by decide +kernel
theorem dX1_sum_37 : decode cX1_sum 37 = .ok (.sipush 255, 3) := by decide +kernel
theorem dX1_sum_40 : decode cX1_sum 40 = .ok (.iand, 1) := by decide +kernel
theorem dX1_sum_41 : decode cX1_sum 41 = .ok (.i2l, 1) := by decide +kernel
theorem dX1_sum_42 : decode cX1_sum 42 = .ok (.lxor, 1) := by decide +kernel
theorem dX1_sum_43 : decode cX1_sum 43 = .ok (.lstore 9, 2) := by decide +kernel
theorem dX1_sum_45 : decode cX1_sum 45 = .ok (.lload 9, 2) := by decide +kernel
theorem dX1_sum_47 : decode cX1_sum 47 = .ok (.bipush 29, 2) := by decide +kernel
theorem dX1_sum_49 : decode cX1_sum 49 = .ok (.lshl, 1) := by decide +kernel
theorem dX1_sum_50 : decode cX1_sum 50 = .ok (.lload 9, 2) := by decide +kernel
theorem dX1_sum_52 : decode cX1_sum 52 = .ok (.bipush 35, 2) := by decide +kernel
theorem dX1_sum_54 : decode cX1_sum 54 = .ok (.lushr, 1) := by decide +kernel
theorem dX1_sum_55 : decode cX1_sum 55 = .ok (.lor, 1) := by decide +kernel
theorem dX1_sum_56 : decode cX1_sum 56 = .ok (.ldc2_w 53, 3) := by decide +kernel
theorem dX1_sum_59 : decode cX1_sum 59 = .ok (.lmul, 1) := by decide +kernel
theorem dX1_sum_60 : decode cX1_sum 60 = .ok (.lstore 5, 2) := by decide +kernel
theorem dX1_sum_62 : decode cX1_sum 62 = .ok (.iinc 8 1, 3) := by decide +kernel
theorem dX1_sum_65 : decode cX1_sum 65 = .ok (.goto (-44), 3) := by decide +kernel
theorem dX1_sum_68 : decode cX1_sum 68 = .ok (.lload 5, 2) := by decide +kernel
theorem dX1_sum_70 : decode cX1_sum 70 = .ok (.lreturn, 1) := by decide +kernel
theorem dX2_init_0 : decode cX2_init 0 = .ok (.aload_n 0, 1) := by decide +kernel
theorem dX2_init_1 : decode cX2_init 1 = .ok (.invokespecial 3, 3) := by decide +kernel
theorem dX2_init_4 : decode cX2_init 4 = .ok (.aload_n 0, 1) := by decide +kernel
theorem dX2_init_5 : decode cX2_init 5 = .ok (.bipush 64, 2) := by decide +kernel
theorem dX2_init_7 : decode cX2_init 7 = .ok (.newarray .long, 2) := by decide +kernel
theorem dX2_init_9 : decode cX2_init 9 = .ok (.putfield 9, 3) := by decide +kernel
theorem dX2_init_12 : decode cX2_init 12 = .ok (.aload_n 0, 1) := by decide +kernel
theorem dX2_init_13 : decode cX2_init 13 = .ok (.new 15, 3) := by decide +kernel
theorem dX2_init_16 : decode cX2_init 16 = .ok (.dup, 1) := by decide +kernel
theorem dX2_init_17 : decode cX2_init 17 = .ok (.invokespecial 17, 3) := by decide +kernel
theorem dX2_init_20 : decode cX2_init 20 = .ok (.putfield 18, 3) := by decide +kernel
theorem dX2_init_23 : decode cX2_init 23 = .ok (.aload_n 0, 1) := by decide +kernel
theorem dX2_init_24 : decode cX2_init 24 = .ok (.bipush 100, 2) := by decide +kernel
theorem dX2_init_26 : decode cX2_init 26 = .ok (.newarray .boolean, 2) := by decide +kernel
theorem dX2_init_28 : decode cX2_init 28 = .ok (.putfield 22, 3) := by decide +kernel
theorem dX2_init_31 : decode cX2_init 31 = .ok (.aload_n 0, 1) := by decide +kernel
theorem dX2_init_32 : decode cX2_init 32 = .ok (.sipush 800, 3) := by decide +kernel
theorem dX2_init_35 : decode cX2_init 35 = .ok (.newarray .int, 2) := by decide +kernel
theorem dX2_init_37 : decode cX2_init 37 = .ok (.putfield 26, 3) := by decide +kernel
theorem dX2_init_40 : decode cX2_init 40 = .ok (.aload_n 0, 1) := by decide +kernel
theorem dX2_init_41 : decode cX2_init 41 = .ok (.bipush 100, 2) := by decide +kernel
theorem dX2_init_43 : decode cX2_init 43 = .ok (.newarray .int, 2) := by decide +kernel
theorem dX2_init_45 : decode cX2_init 45 = .ok (.putfield 30, 3) := by decide +kernel
theorem dX2_init_48 : decode cX2_init 48 = .ok (.aload_n 0, 1) := by decide +kernel
theorem dX2_init_49 : decode cX2_init 49 = .ok (.bipush 100, 2) := by decide +kernel
theorem dX2_init_51 : decode cX2_init 51 = .ok (.newarray .long, 2) := by decide +kernel
theorem dX2_init_53 : decode cX2_init 53 = .ok (.putfield 33, 3) := by decide +kernel
theorem dX2_init_56 : decode cX2_init 56 = .ok (.return_, 1) := by decide +kernel
theorem dX2_forget_0 : decode cX2_forget 0 = .ok (.aload_n 0, 1) := by decide +kernel
theorem dX2_forget_1 : decode cX2_forget 1 = .ok (.iload_n 1, 1) := by decide +kernel
theorem dX2_forget_2 : decode cX2_forget 2 = .ok (.putfield 36, 3) := by decide +kernel
theorem dX2_forget_5 : decode cX2_forget 5 = .ok (.aload_n 0, 1) := by decide +kernel
theorem dX2_forget_6 : decode cX2_forget 6 = .ok (.getfield 9, 3) := by decide +kernel
theorem dX2_forget_9 : decode cX2_forget 9 = .ok (.lconst 0, 1) := by decide +kernel
theorem dX2_forget_10 : decode cX2_forget 10 = .ok (.invokestatic 40, 3) := by decide +kernel
theorem dX2_forget_13 : decode cX2_forget 13 = .ok (.aload_n 0, 1) := by decide +kernel
theorem dX2_forget_14 : decode cX2_forget 14 = .ok (.getfield 18, 3) := by decide +kernel
theorem dX2_forget_17 : decode cX2_forget 17 = .ok (.invokevirtual 46, 3) := by decide +kernel
theorem dX2_forget_20 : decode cX2_forget 20 = .ok (.aload_n 0, 1) := by decide +kernel
theorem dX2_forget_21 : decode cX2_forget 21 = .ok (.iconst 0, 1) := by decide +kernel
theorem dX2_forget_22 : decode cX2_forget 22 = .ok (.putfield 49, 3) := by decide +kernel
theorem dX2_forget_25 : decode cX2_forget 25 = .ok (.aload_n 0, 1) := by decide +kernel
theorem dX2_forget_26 : decode cX2_forget 26 = .ok (.iconst 0, 1) := by decide +kernel
theorem dX2_forget_27 : decode cX2_forget 27 = .ok (.putfield 52, 3) := by decide +kernel
theorem dX2_forget_30 : decode cX2_forget 30 = .ok (.aload_n 0, 1) := by decide +kernel
theorem dX2_forget_31 : decode cX2_forget 31 = .ok (.iconst 0, 1) := by decide +kernel
theorem dX2_forget_32 : decode cX2_forget 32 = .ok (.putfield 55, 3) := by decide +kernel
theorem dX2_forget_35 : decode cX2_forget 35 = .ok (.aload_n 0, 1) := by decide +kernel
theorem dX2_forget_36 : decode cX2_forget 36 = .ok (.iconst 0, 1) := by decide +kernel
theorem dX2_forget_37 : decode cX2_forget 37 = .ok (.putfield 58, 3) := by decide +kernel
theorem dX2_forget_40 : decode cX2_forget 40 = .ok (.aload_n 0, 1) := by decide +kernel
theorem dX2_forget_41 : decode cX2_forget 41 = .ok (.iconst 0, 1) := by decide +kernel
theorem dX2_forget_42 : decode cX2_forget 42 = .ok (.putfield 61, 3) := by decide +kernel
theorem dX2_forget_45 : decode cX2_forget 45 = .ok (.return_, 1) := by decide +kernel
theorem dX2_isThere_0 : decode cX2_isThere 0 = .ok (.iload_n 1, 1) := by decide +kernel
theorem dX2_isThere_1 : decode cX2_isThere 1 = .ok (.ifCond .lt 30, 3) := by decide +kernel
theorem dX2_isThere_4 : decode cX2_isThere 4 = .ok (.iload_n 1, 1) := by decide +kernel
theorem dX2_isThere_5 : decode cX2_isThere 5 = .ok (.aload_n 0, 1) := by decide +kernel
theorem dX2_isThere_6 : decode cX2_isThere 6 = .ok (.getfield 52, 3) := by decide +kernel
theorem dX2_isThere_9 : decode cX2_isThere 9 = .ok (.if_icmp .ge 22, 3) := by decide +kernel
theorem dX2_isThere_12 : decode cX2_isThere 12 = .ok (.iload_n 1, 1) := by decide +kernel
theorem dX2_isThere_13 : decode cX2_isThere 13 = .ok (.bipush 100, 2) := by decide +kernel
theorem dX2_isThere_15 : decode cX2_isThere 15 = .ok (.if_icmp .ge 16, 3) := by decide +kernel
theorem dX2_isThere_18 : decode cX2_isThere 18 = .ok (.aload_n 0, 1) := by decide +kernel
theorem dX2_isThere_19 : decode cX2_isThere 19 = .ok (.getfield 22, 3) := by decide +kernel
theorem dX2_isThere_22 : decode cX2_isThere 22 = .ok (.iload_n 1, 1) := by decide +kernel
theorem dX2_isThere_23 : decode cX2_isThere 23 = .ok (.baload, 1) := by decide +kernel
theorem dX2_isThere_24 : decode cX2_isThere 24 = .ok (.ifCond .eq 7, 3) := by decide +kernel
theorem dX2_isThere_27 : decode cX2_isThere 27 = .ok (.iconst 1, 1) := by decide +kernel
theorem dX2_isThere_28 : decode cX2_isThere 28 = .ok (.goto 4, 3) := by decide +kernel
theorem dX2_isThere_31 : decode cX2_isThere 31 = .ok (.iconst 0, 1) := by decide +kernel
theorem dX2_isThere_32 : decode cX2_isThere 32 = .ok (.ireturn, 1) := by decide +kernel
theorem dX2_countThere_0 : decode cX2_countThere 0 = .ok (.iconst 0, 1) := by decide +kernel
theorem dX2_countThere_1 : decode cX2_countThere 1 = .ok (.istore_n 1, 1) := by decide +kernel
theorem dX2_countThere_2 : decode cX2_countThere 2 = .ok (.iconst 0, 1) := by decide +kernel
theorem dX2_countThere_3 : decode cX2_countThere 3 = .ok (.istore_n 2, 1) := by decide +kernel
theorem dX2_countThere_4 : decode cX2_countThere 4 = .ok (.iload_n 2, 1) := by decide +kernel
theorem dX2_countThere_5 : decode cX2_countThere 5 = .ok (.aload_n 0, 1) := by decide +kernel
theorem dX2_countThere_6 : decode cX2_countThere 6 = .ok (.getfield 52, 3) := by decide +kernel
theorem dX2_countThere_9 : decode cX2_countThere 9 = .ok (.if_icmp .ge 20, 3) := by decide +kernel
theorem dX2_countThere_12 : decode cX2_countThere 12 = .ok (.aload_n 0, 1) := by decide +kernel
theorem dX2_countThere_13 : decode cX2_countThere 13 = .ok (.iload_n 2, 1) := by decide +kernel
theorem dX2_countThere_14 : decode cX2_countThere 14 = .ok (.invokevirtual 64, 3) := by decide +kernel
theorem dX2_countThere_17 : decode cX2_countThere 17 = .ok (.ifCond .eq 6, 3) := by decide +kernel
theorem dX2_countThere_20 : decode cX2_countThere 20 = .ok (.iinc 1 1, 3) := by decide +kernel
theorem dX2_countThere_23 : decode cX2_countThere 23 = .ok (.iinc 2 1, 3) := by decide +kernel
theorem dX2_countThere_26 : decode cX2_countThere 26 = .ok (.goto (-22), 3) := by decide +kernel
theorem dX2_countThere_29 : decode cX2_countThere 29 = .ok (.iload_n 1, 1) := by decide +kernel
theorem dX2_countThere_30 : decode cX2_countThere 30 = .ok (.ireturn, 1) := by decide +kernel
theorem dX2_slotOf_0 : decode cX2_slotOf 0 = .ok (.iload_n 1, 1) := by decide +kernel
theorem dX2_slotOf_1 : decode cX2_slotOf 1 = .ok (.ifCond .lt 23, 3) := by decide +kernel
theorem dX2_slotOf_4 : decode cX2_slotOf 4 = .ok (.iload_n 1, 1) := by decide +kernel
theorem dX2_slotOf_5 : decode cX2_slotOf 5 = .ok (.bipush 100, 2) := by decide +kernel
theorem dX2_slotOf_7 : decode cX2_slotOf 7 = .ok (.if_icmp .ge 17, 3) := by decide +kernel
theorem dX2_slotOf_10 : decode cX2_slotOf 10 = .ok (.iload_n 2, 1) := by decide +kernel
theorem dX2_slotOf_11 : decode cX2_slotOf 11 = .ok (.ifCond .lt 13, 3) := by decide +kernel
theorem dX2_slotOf_14 : decode cX2_slotOf 14 = .ok (.iload_n 2, 1) := by decide +kernel
theorem dX2_slotOf_15 : decode cX2_slotOf 15 = .ok (.bipush 8, 2) := by decide +kernel
theorem dX2_slotOf_17 : decode cX2_slotOf 17 = .ok (.if_icmp .ge 7, 3) := by decide +kernel
theorem dX2_slotOf_20 : decode cX2_slotOf 20 = .ok (.iconst 1, 1) := by decide +kernel
theorem dX2_slotOf_21 : decode cX2_slotOf 21 = .ok (.goto 4, 3) := by decide +kernel
theorem dX2_slotOf_24 : decode cX2_slotOf 24 = .ok (.iconst 0, 1) := by decide +kernel
theorem dX2_slotOf_25 : decode cX2_slotOf 25 = .ok (.istore_n 3, 1) := by decide +kernel
theorem dX2_slotOf_26 : decode cX2_slotOf 26 = .ok (.iload_n 3, 1) := by decide +kernel
theorem dX2_slotOf_27 : decode cX2_slotOf 27 = .ok (.ifCond .eq 17, 3) := by decide +kernel
theorem dX2_slotOf_30 : decode cX2_slotOf 30 = .ok (.aload_n 0, 1) := by decide +kernel
theorem dX2_slotOf_31 : decode cX2_slotOf 31 = .ok (.getfield 26, 3) := by decide +kernel
theorem dX2_slotOf_34 : decode cX2_slotOf 34 = .ok (.iload_n 1, 1) := by decide +kernel
theorem dX2_slotOf_35 : decode cX2_slotOf 35 = .ok (.bipush 8, 2) := by decide +kernel
theorem dX2_slotOf_37 : decode cX2_slotOf 37 = .ok (.imul, 1) := by decide +kernel
theorem dX2_slotOf_38 : decode cX2_slotOf 38 = .ok (.iload_n 2, 1) := by decide +kernel
theorem dX2_slotOf_39 : decode cX2_slotOf 39 = .ok (.iadd, 1) := by decide +kernel
theorem dX2_slotOf_40 : decode cX2_slotOf 40 = .ok (.iaload, 1) := by decide +kernel
theorem dX2_slotOf_41 : decode cX2_slotOf 41 = .ok (.goto 4, 3) := by decide +kernel
theorem dX2_slotOf_44 : decode cX2_slotOf 44 = .ok (.iconst (-1), 1) := by decide +kernel
theorem dX2_slotOf_45 : decode cX2_slotOf 45 = .ok (.ireturn, 1) := by decide +kernel
theorem dX2_edgesOfNow_0 : decode cX2_edgesOfNow 0 = .ok (.iload_n 1, 1) := by decide +kernel
theorem dX2_edgesOfNow_1 : decode cX2_edgesOfNow 1 = .ok (.ifCond .lt 18, 3) := by decide +kernel
theorem dX2_edgesOfNow_4 : decode cX2_edgesOfNow 4 = .ok (.iload_n 1, 1) := by decide +kernel
theorem dX2_edgesOfNow_5 : decode cX2_edgesOfNow 5 = .ok (.bipush 64, 2) := by decide +kernel
theorem dX2_edgesOfNow_7 : decode cX2_edgesOfNow 7 = .ok (.if_icmp .ge 12, 3) := by decide +kernel
theorem dX2_edgesOfNow_10 : decode cX2_edgesOfNow 10 = .ok (.aload_n 0, 1) := by decide +kernel
theorem dX2_edgesOfNow_11 : decode cX2_edgesOfNow 11 = .ok (.getfield 9, 3) := by decide +kernel
theorem dX2_edgesOfNow_14 : decode cX2_edgesOfNow 14 = .ok (.iload_n 1, 1) := by decide +kernel
theorem dX2_edgesOfNow_15 : decode cX2_edgesOfNow 15 = .ok (.laload, 1) := by decide +kernel
theorem dX2_edgesOfNow_16 : decode cX2_edgesOfNow 16 = .ok (.goto 4, 3) := by decide +kernel
theorem dX2_edgesOfNow_19 : decode cX2_edgesOfNow 19 = .ok (.lconst 0, 1) := by decide +kernel
theorem dX2_edgesOfNow_20 : decode cX2_edgesOfNow 20 = .ok (.lreturn, 1) := by decide +kernel
theorem dX2_edgesFrom_0 : decode cX2_edgesFrom 0 = .ok (.iload_n 1, 1) := by decide +kernel
theorem dX2_edgesFrom_1 : decode cX2_edgesFrom 1 = .ok (.iconst (-1), 1) := by decide +kernel
theorem dX2_edgesFrom_2 : decode cX2_edgesFrom 2 = .ok (.if_icmp .ne 9, 3) := by decide +kernel
theorem dX2_edgesFrom_5 : decode cX2_edgesFrom 5 = .ok (.aload_n 0, 1) := by decide +kernel
theorem dX2_edgesFrom_6 : decode cX2_edgesFrom 6 = .ok (.iload_n 2, 1) := by decide +kernel
theorem dX2_edgesFrom_7 : decode cX2_edgesFrom 7 = .ok (.invokevirtual 68, 3) := by decide +kernel
theorem dX2_edgesFrom_10 : decode cX2_edgesFrom 10 = .ok (.lreturn, 1) := by decide +kernel
theorem dX2_edgesFrom_11 : decode cX2_edgesFrom 11 = .ok (.aload_n 0, 1) := by decide +kernel
theorem dX2_edgesFrom_12 : decode cX2_edgesFrom 12 = .ok (.getfield 18, 3) := by decide +kernel
theorem dX2_edgesFrom_15 : decode cX2_edgesFrom 15 = .ok (.aload_n 0, 1) := by decide +kernel
theorem dX2_edgesFrom_16 : decode cX2_edgesFrom 16 = .ok (.iload_n 1, 1) := by decide +kernel
theorem dX2_edgesFrom_17 : decode cX2_edgesFrom 17 = .ok (.iload_n 2, 1) := by decide +kernel
theorem dX2_edgesFrom_18 : decode cX2_edgesFrom 18 = .ok (.bipush 8, 2) := by decide +kernel
theorem dX2_edgesFrom_20 : decode cX2_edgesFrom 20 = .ok (.idiv, 1) := by decide +kernel
theorem dX2_edgesFrom_21 : decode cX2_edgesFrom 21 = .ok (.invokevirtual 72, 3) := by decide +kernel
theorem dX2_edgesFrom_24 : decode cX2_edgesFrom 24 = .ok (.iload_n 2, 1) := by decide +kernel
theorem dX2_edgesFrom_25 : decode cX2_edgesFrom 25 = .ok (.bipush 8, 2) := by decide +kernel
theorem dX2_edgesFrom_27 : decode cX2_edgesFrom 27 = .ok (.irem, 1) := by decide +kernel
theorem dX2_edgesFrom_28 : decode cX2_edgesFrom 28 = .ok (.invokevirtual 76, 3) := by decide +kernel
theorem dX2_edgesFrom_31 : decode cX2_edgesFrom 31 = .ok (.lreturn, 1) := by decide +kernel
theorem dX2_joins_0 : decode cX2_joins 0 = .ok (.aload_n 0, 1) := by decide +kernel
theorem dX2_joins_1 : decode cX2_joins 1 = .ok (.iload_n 1, 1) := by decide +kernel
theorem dX2_joins_2 : decode cX2_joins 2 = .ok (.iload_n 2, 1) := by decide +kernel
theorem dX2_joins_3 : decode cX2_joins 3 = .ok (.invokevirtual 80, 3) := by decide +kernel
theorem dX2_joins_6 : decode cX2_joins 6 = .ok (.iload_n 3, 1) := by decide +kernel
theorem dX2_joins_7 : decode cX2_joins 7 = .ok (.lushr, 1) := by decide +kernel
theorem dX2_joins_8 : decode cX2_joins 8 = .ok (.lconst 1, 1) := by decide +kernel
theorem dX2_joins_9 : decode cX2_joins 9 = .ok (.land, 1) := by decide +kernel
theorem dX2_joins_10 : decode cX2_joins 10 = .ok (.lconst 0, 1) := by decide +kernel
theorem dX2_joins_11 : decode cX2_joins 11 = .ok (.lcmp, 1) := by decide +kernel
theorem dX2_joins_12 : decode cX2_joins 12 = .ok (.ifCond .eq 7, 3) := by decide +kernel
theorem dX2_joins_15 : decode cX2_joins 15 = .ok (.iconst 1, 1) := by decide +kernel
theorem dX2_joins_16 : decode cX2_joins 16 = .ok (.goto 4, 3) := by decide +kernel
theorem dX2_joins_19 : decode cX2_joins 19 = .ok (.iconst 0, 1) := by decide +kernel
theorem dX2_joins_20 : decode cX2_joins 20 = .ok (.ireturn, 1) := by decide +kernel
theorem dX2_countEdges_0 : decode cX2_countEdges 0 = .ok (.iconst 0, 1) := by decide +kernel
theorem dX2_countEdges_1 : decode cX2_countEdges 1 = .ok (.istore_n 1, 1) := by decide +kernel
theorem dX2_countEdges_2 : decode cX2_countEdges 2 = .ok (.iconst 0, 1) := by decide +kernel
theorem dX2_countEdges_3 : decode cX2_countEdges 3 = .ok (.istore_n 2, 1) := by decide +kernel
theorem dX2_countEdges_4 : decode cX2_countEdges 4 = .ok (.iload_n 2, 1) := by decide +kernel
theorem dX2_countEdges_5 : decode cX2_countEdges 5 = .ok (.bipush 64, 2) := by decide +kernel
theorem dX2_countEdges_7 : decode cX2_countEdges 7 = .ok (.if_icmp .ge 21, 3) := by decide +kernel
theorem dX2_countEdges_10 : decode cX2_countEdges 10 = .ok (.iload_n 1, 1) := by decide +kernel
theorem dX2_countEdges_11 : decode cX2_countEdges 11 = .ok (.aload_n 0, 1) := by decide +kernel
theorem dX2_countEdges_12 : decode cX2_countEdges 12 = .ok (.getfield 9, 3) := by decide +kernel
theorem dX2_countEdges_15 : decode cX2_countEdges 15 = .ok (.iload_n 2, 1) := by decide +kernel
theorem dX2_countEdges_16 : decode cX2_countEdges 16 = .ok (.laload, 1) := by decide +kernel
theorem dX2_countEdges_17 : decode cX2_countEdges 17 = .ok (.invokestatic 83, 3) := by decide +kernel
theorem dX2_countEdges_20 : decode cX2_countEdges 20 = .ok (.iadd, 1) := by decide +kernel
theorem dX2_countEdges_21 : decode cX2_countEdges 21 = .ok (.istore_n 1, 1) := by decide +kernel
theorem dX2_countEdges_22 : decode cX2_countEdges 22 = .ok (.iinc 2 1, 3) := by decide +kernel
theorem dX2_countEdges_25 : decode cX2_countEdges 25 = .ok (.goto (-21), 3) := by decide +kernel
theorem dX2_countEdges_28 : decode cX2_countEdges 28 = .ok (.iload_n 1, 1) := by decide +kernel
theorem dX2_countEdges_29 : decode cX2_countEdges 29 = .ok (.ireturn, 1) := by decide +kernel
theorem dX2_versionOfAnswer_0 : decode cX2_versionOfAnswer 0 = .ok (.iload_n 1, 1) := by decide +kernel
theorem dX2_versionOfAnswer_1 : decode cX2_versionOfAnswer 1 = .ok (.ifCond .lt 18, 3) := by decide +kernel
theorem dX2_versionOfAnswer_4 : decode cX2_versionOfAnswer 4 = .ok (.iload_n 1, 1) := by decide +kernel
theorem dX2_versionOfAnswer_5 : decode cX2_versionOfAnswer 5 = .ok (.bipush 100, 2) := by decide +kernel
theorem dX2_versionOfAnswer_7 : decode cX2_versionOfAnswer 7 = .ok (.if_icmp .ge 12, 3) := by decide +kernel
theorem dX2_versionOfAnswer_10 : decode cX2_versionOfAnswer 10 = .ok (.aload_n 0, 1) := by decide +kernel
theorem dX2_versionOfAnswer_11 : decode cX2_versionOfAnswer 11 = .ok (.getfield 30, 3) := by decide +kernel
theorem dX2_versionOfAnswer_14 : decode cX2_versionOfAnswer 14 = .ok (.iload_n 1, 1) := by decide +kernel
theorem dX2_versionOfAnswer_15 : decode cX2_versionOfAnswer 15 = .ok (.iaload, 1) := by decide +kernel
theorem dX2_versionOfAnswer_16 : decode cX2_versionOfAnswer 16 = .ok (.goto 4, 3) := by decide +kernel
theorem dX2_versionOfAnswer_19 : decode cX2_versionOfAnswer 19 = .ok (.iconst (-1), 1) := by decide +kernel
theorem dX2_versionOfAnswer_20 : decode cX2_versionOfAnswer 20 = .ok (.ireturn, 1) := by decide +kernel
theorem dX2_maskOfAnswer_0 : decode cX2_maskOfAnswer 0 = .ok (.iload_n 1, 1) := by decide +kernel
theorem dX2_maskOfAnswer_1 : decode cX2_maskOfAnswer 1 = .ok (.ifCond .lt 18, 3) := by decide +kernel
theorem dX2_maskOfAnswer_4 : decode cX2_maskOfAnswer 4 = .ok (.iload_n 1, 1) := by decide +kernel
theorem dX2_maskOfAnswer_5 : decode cX2_maskOfAnswer 5 = .ok (.bipush 100, 2) := by decide +kernel
theorem dX2_maskOfAnswer_7 : decode cX2_maskOfAnswer 7 = .ok (.if_icmp .ge 12, 3) := by decide +kernel
theorem dX2_maskOfAnswer_10 : decode cX2_maskOfAnswer 10 = .ok (.aload_n 0, 1) := by decide +kernel
theorem dX2_maskOfAnswer_11 : decode cX2_maskOfAnswer 11 = .ok (.getfield 33, 3) := by decide +kernel
theorem dX2_maskOfAnswer_14 : decode cX2_maskOfAnswer 14 = .ok (.iload_n 1, 1) := by decide +kernel
theorem dX2_maskOfAnswer_15 : decode cX2_maskOfAnswer 15 = .ok (.laload, 1) := by decide +kernel
theorem dX2_maskOfAnswer_16 : decode cX2_maskOfAnswer 16 = .ok (.goto 4, 3) := by decide +kernel
theorem dX2_maskOfAnswer_19 : decode cX2_maskOfAnswer 19 = .ok (.lconst 0, 1) := by decide +kernel
theorem dX2_maskOfAnswer_20 : decode cX2_maskOfAnswer 20 = .ok (.lreturn, 1) := by decide +kernel
theorem dX2_readLog_0 : decode cX2_readLog 0 = .ok (.aload_n 0, 1) := by decide +kernel
theorem dX2_readLog_1 : decode cX2_readLog 1 = .ok (.iload_n 3, 1) := by decide +kernel
theorem dX2_readLog_2 : decode cX2_readLog 2 = .ok (.invokevirtual 89, 3) := by decide +kernel
theorem dX2_readLog_5 : decode cX2_readLog 5 = .ok (.bipush 32, 2) := by decide +kernel
theorem dX2_readLog_7 : decode cX2_readLog 7 = .ok (.iload_n 2, 1) := by decide +kernel
theorem dX2_readLog_8 : decode cX2_readLog 8 = .ok (.iadd, 1) := by decide +kernel
theorem dX2_readLog_9 : decode cX2_readLog 9 = .ok (.istore 4, 2) := by decide +kernel
theorem dX2_readLog_11 : decode cX2_readLog 11 = .ok (.iconst 0, 1) := by decide +kernel
theorem dX2_readLog_12 : decode cX2_readLog 12 = .ok (.istore 5, 2) := by decide +kernel
theorem dX2_readLog_14 : decode cX2_readLog 14 = .ok (.iload 5, 2) := by decide +kernel
theorem dX2_readLog_16 : decode cX2_readLog 16 = .ok (.sipush 2000, 3) := by decide +kernel
theorem dX2_readLog_19 : decode cX2_readLog 19 = .ok (.if_icmp .ge 51, 3) := by decide +kernel
theorem dX2_readLog_22 : decode cX2_readLog 22 = .ok (.aload_n 0, 1) := by decide +kernel
theorem dX2_readLog_23 : decode cX2_readLog 23 = .ok (.getfield 61, 3) := by decide +kernel
theorem dX2_readLog_26 : decode cX2_readLog 26 = .ok (.iload_n 2, 1) := by decide +kernel
theorem dX2_readLog_27 : decode cX2_readLog 27 = .ok (.if_icmp .ge 43, 3) := by decide +kernel
theorem dX2_readLog_30 : decode cX2_readLog 30 = .ok (.aload_n 0, 1) := by decide +kernel
theorem dX2_readLog_31 : decode cX2_readLog 31 = .ok (.aload_n 1, 1) := by decide +kernel
theorem dX2_readLog_32 : decode cX2_readLog 32 = .ok (.bipush 32, 2) := by decide +kernel
theorem dX2_readLog_34 : decode cX2_readLog 34 = .ok (.aload_n 0, 1) := by decide +kernel
theorem dX2_readLog_35 : decode cX2_readLog 35 = .ok (.getfield 61, 3) := by decide +kernel
theorem dX2_readLog_38 : decode cX2_readLog 38 = .ok (.iadd, 1) := by decide +kernel
theorem dX2_readLog_39 : decode cX2_readLog 39 = .ok (.iload 4, 2) := by decide +kernel
theorem dX2_readLog_41 : decode cX2_readLog 41 = .ok (.invokevirtual 92, 3) := by decide +kernel
theorem dX2_readLog_44 : decode cX2_readLog 44 = .ok (.ifCond .ne 8, 3) := by decide +kernel
theorem dX2_readLog_47 : decode cX2_readLog 47 = .ok (.aload_n 0, 1) := by decide +kernel
theorem dX2_readLog_48 : decode cX2_readLog 48 = .ok (.getfield 58, 3) := by decide +kernel
theorem dX2_readLog_51 : decode cX2_readLog 51 = .ok (.ireturn, 1) := by decide +kernel
theorem dX2_readLog_52 : decode cX2_readLog 52 = .ok (.aload_n 0, 1) := by decide +kernel
theorem dX2_readLog_53 : decode cX2_readLog 53 = .ok (.aload_n 1, 1) := by decide +kernel
theorem dX2_readLog_54 : decode cX2_readLog 54 = .ok (.bipush 32, 2) := by decide +kernel
theorem dX2_readLog_56 : decode cX2_readLog 56 = .ok (.aload_n 0, 1) := by decide +kernel
theorem dX2_readLog_57 : decode cX2_readLog 57 = .ok (.getfield 61, 3) := by decide +kernel
theorem dX2_readLog_60 : decode cX2_readLog 60 = .ok (.iadd, 1) := by decide +kernel
theorem dX2_readLog_61 : decode cX2_readLog 61 = .ok (.invokevirtual 96, 3) := by decide +kernel
theorem dX2_readLog_64 : decode cX2_readLog 64 = .ok (.iinc 5 1, 3) := by decide +kernel
theorem dX2_readLog_67 : decode cX2_readLog 67 = .ok (.goto (-53), 3) := by decide +kernel
theorem dX2_readLog_70 : decode cX2_readLog 70 = .ok (.iconst (-1), 1) := by decide +kernel
theorem dX2_readLog_71 : decode cX2_readLog 71 = .ok (.ireturn, 1) := by decide +kernel
theorem dX2_isRowRight_0 : decode cX2_isRowRight 0 = .ok (.aload_n 1, 1) := by decide +kernel
theorem dX2_isRowRight_1 : decode cX2_isRowRight 1 = .ok (.iload_n 2, 1) := by decide +kernel
theorem dX2_isRowRight_2 : decode cX2_isRowRight 2 = .ok (.invokevirtual 100, 3) := by decide +kernel
theorem dX2_isRowRight_5 : decode cX2_isRowRight 5 = .ok (.invokestatic 106, 3) := by decide +kernel
theorem dX2_isRowRight_8 : decode cX2_isRowRight 8 = .ok (.istore 4, 2) := by decide +kernel
theorem dX2_isRowRight_10 : decode cX2_isRowRight 10 = .ok (.iload_n 2, 1) := by decide +kernel
theorem dX2_isRowRight_11 : decode cX2_isRowRight 11 = .ok (.iconst 4, 1) := by decide +kernel
theorem dX2_isRowRight_12 : decode cX2_isRowRight 12 = .ok (.iadd, 1) := by decide +kernel
theorem dX2_isRowRight_13 : decode cX2_isRowRight 13 = .ok (.iload 4, 2) := by decide +kernel
theorem dX2_isRowRight_15 : decode cX2_isRowRight 15 = .ok (.iadd, 1) := by decide +kernel
theorem dX2_isRowRight_16 : decode cX2_isRowRight 16 = .ok (.istore 5, 2) := by decide +kernel
theorem dX2_isRowRight_18 : decode cX2_isRowRight 18 = .ok (.iload 4, 2) := by decide +kernel
theorem dX2_isRowRight_20 : decode cX2_isRowRight 20 = .ok (.iconst (-1), 1) := by decide +kernel
theorem dX2_isRowRight_21 : decode cX2_isRowRight 21 = .ok (.if_icmp .eq 24, 3) := by decide +kernel
theorem dX2_isRowRight_24 : decode cX2_isRowRight 24 = .ok (.iload 5, 2) := by decide +kernel
theorem dX2_isRowRight_26 : decode cX2_isRowRight 26 = .ok (.bipush 8, 2) := by decide +kernel
theorem dX2_isRowRight_28 : decode cX2_isRowRight 28 = .ok (.iadd, 1) := by decide +kernel
theorem dX2_isRowRight_29 : decode cX2_isRowRight 29 = .ok (.iload_n 3, 1) := by decide +kernel
theorem dX2_isRowRight_30 : decode cX2_isRowRight 30 = .ok (.if_icmp .gt 15, 3) := by decide +kernel
theorem dX2_isRowRight_33 : decode cX2_isRowRight 33 = .ok (.aload_n 1, 1) := by decide +kernel
theorem dX2_isRowRight_34 : decode cX2_isRowRight 34 = .ok (.iload_n 2, 1) := by decide +kernel
theorem dX2_isRowRight_35 : decode cX2_isRowRight 35 = .ok (.iconst 3, 1) := by decide +kernel
theorem dX2_isRowRight_36 : decode cX2_isRowRight 36 = .ok (.iadd, 1) := by decide +kernel
theorem dX2_isRowRight_37 : decode cX2_isRowRight 37 = .ok (.invokevirtual 100, 3) := by decide +kernel
theorem dX2_isRowRight_40 : decode cX2_isRowRight 40 = .ok (.iload 4, 2) := by decide +kernel
theorem dX2_isRowRight_42 : decode cX2_isRowRight 42 = .ok (.if_icmp .eq 5, 3) := by decide +kernel
theorem dX2_isRowRight_45 : decode cX2_isRowRight 45 = .ok (.iconst 0, 1) := by decide +kernel
theorem dX2_isRowRight_46 : decode cX2_isRowRight 46 = .ok (.ireturn, 1) := by decide +kernel
theorem dX2_isRowRight_47 : decode cX2_isRowRight 47 = .ok (.aload_n 1, 1) := by decide +kernel
theorem dX2_isRowRight_48 : decode cX2_isRowRight 48 = .ok (.iload_n 2, 1) := by decide +kernel
theorem dX2_isRowRight_49 : decode cX2_isRowRight 49 = .ok (.iload 5, 2) := by decide +kernel
theorem dX2_isRowRight_51 : decode cX2_isRowRight 51 = .ok (.iload_n 2, 1) := by decide +kernel
theorem dX2_isRowRight_52 : decode cX2_isRowRight 52 = .ok (.i2l, 1) := by decide +kernel
theorem dX2_isRowRight_53 : decode cX2_isRowRight 53 = .ok (.invokevirtual 109, 3) := by decide +kernel
theorem dX2_isRowRight_56 : decode cX2_isRowRight 56 = .ok (.aload_n 1, 1) := by decide +kernel
theorem dX2_isRowRight_57 : decode cX2_isRowRight 57 = .ok (.iload 5, 2) := by decide +kernel
theorem dX2_isRowRight_59 : decode cX2_isRowRight 59 = .ok (.bipush 8, 2) := by decide +kernel
theorem dX2_isRowRight_61 : decode cX2_isRowRight 61 = .ok (.invokevirtual 113, 3) := by decide +kernel
theorem dX2_isRowRight_64 : decode cX2_isRowRight 64 = .ok (.lcmp, 1) := by decide +kernel
theorem dX2_isRowRight_65 : decode cX2_isRowRight 65 = .ok (.ifCond .ne 16, 3) := by decide +kernel
theorem dX2_isRowRight_68 : decode cX2_isRowRight 68 = .ok (.aload_n 0, 1) := by decide +kernel
theorem dX2_isRowRight_69 : decode cX2_isRowRight 69 = .ok (.aload_n 1, 1) := by decide +kernel
theorem dX2_isRowRight_70 : decode cX2_isRowRight 70 = .ok (.iload_n 2, 1) := by decide +kernel
theorem dX2_isRowRight_71 : decode cX2_isRowRight 71 = .ok (.invokevirtual 116, 3) := by decide +kernel
theorem dX2_isRowRight_74 : decode cX2_isRowRight 74 = .ok (.ifCond .eq 7, 3) := by decide +kernel
theorem dX2_isRowRight_77 : decode cX2_isRowRight 77 = .ok (.iconst 1, 1) := by decide +kernel
theorem dX2_isRowRight_78 : decode cX2_isRowRight 78 = .ok (.goto 4, 3) := by decide +kernel
theorem dX2_isRowRight_81 : decode cX2_isRowRight 81 = .ok (.iconst 0, 1) := by decide +kernel
theorem dX2_isRowRight_82 : decode cX2_isRowRight 82 = .ok (.ireturn, 1) := by decide +kernel
theorem dX2_isTextRight_0 : decode cX2_isTextRight 0 = .ok (.aload_n 1, 1) := by decide +kernel
theorem dX2_isTextRight_1 : decode cX2_isTextRight 1 = .ok (.iload_n 2, 1) := by decide +kernel
theorem dX2_isTextRight_2 : decode cX2_isTextRight 2 = .ok (.iconst 1, 1) := by decide +kernel
theorem dX2_isTextRight_3 : decode cX2_isTextRight 3 = .ok (.iadd, 1) := by decide +kernel
theorem dX2_isTextRight_4 : decode cX2_isTextRight 4 = .ok (.iconst 2, 1) := by decide +kernel
theorem dX2_isTextRight_5 : decode cX2_isTextRight 5 = .ok (.invokevirtual 113, 3) := by decide +kernel
theorem dX2_isTextRight_8 : decode cX2_isTextRight 8 = .ok (.l2i, 1) := by decide +kernel
theorem dX2_isTextRight_9 : decode cX2_isTextRight 9 = .ok (.istore_n 3, 1) := by decide +kernel
theorem dX2_isTextRight_10 : decode cX2_isTextRight 10 = .ok (.iload_n 2, 1) := by decide +kernel
theorem dX2_isTextRight_11 : decode cX2_isTextRight 11 = .ok (.iconst 4, 1) := by decide +kernel
theorem dX2_isTextRight_12 : decode cX2_isTextRight 12 = .ok (.iadd, 1) := by decide +kernel
theorem dX2_isTextRight_13 : decode cX2_isTextRight 13 = .ok (.istore 4, 2) := by decide +kernel
theorem dX2_isTextRight_15 : decode cX2_isTextRight 15 = .ok (.aload_n 1, 1) := by decide +kernel
theorem dX2_isTextRight_16 : decode cX2_isTextRight 16 = .ok (.iload_n 2, 1) := by decide +kernel
theorem dX2_isTextRight_17 : decode cX2_isTextRight 17 = .ok (.invokevirtual 100, 3) := by decide +kernel
theorem dX2_isTextRight_20 : decode cX2_isTextRight 20 = .ok (.tableswitch 193 1 5 #[36, 68, 111, 141, 187], 36) := by decide +kernel
theorem dX2_isTextRight_56 : decode cX2_isTextRight 56 = .ok (.iload_n 3, 1) := by decide +kernel
theorem dX2_isTextRight_57 : decode cX2_isTextRight 57 = .ok (.aload_n 0, 1) := by decide +kernel
theorem dX2_isTextRight_58 : decode cX2_isTextRight 58 = .ok (.getfield 36, 3) := by decide +kernel
theorem dX2_isTextRight_61 : decode cX2_isTextRight 61 = .ok (.if_icmp .ge 25, 3) := by decide +kernel
theorem dX2_isTextRight_64 : decode cX2_isTextRight 64 = .ok (.aload_n 0, 1) := by decide +kernel
theorem dX2_isTextRight_65 : decode cX2_isTextRight 65 = .ok (.getfield 18, 3) := by decide +kernel
theorem dX2_isTextRight_68 : decode cX2_isTextRight 68 = .ok (.aload_n 0, 1) := by decide +kernel
theorem dX2_isTextRight_69 : decode cX2_isTextRight 69 = .ok (.getfield 18, 3) := by decide +kernel
theorem dX2_isTextRight_72 : decode cX2_isTextRight 72 = .ok (.iload_n 3, 1) := by decide +kernel
theorem dX2_isTextRight_73 : decode cX2_isTextRight 73 = .ok (.invokevirtual 120, 3) := by decide +kernel
theorem dX2_isTextRight_76 : decode cX2_isTextRight 76 = .ok (.invokevirtual 123, 3) := by decide +kernel
theorem dX2_isTextRight_79 : decode cX2_isTextRight 79 = .ok (.ifCond .ne 7, 3) := by decide +kernel
theorem dX2_isTextRight_82 : decode cX2_isTextRight 82 = .ok (.iconst 1, 1) := by decide +kernel
theorem dX2_isTextRight_83 : decode cX2_isTextRight 83 = .ok (.goto 4, 3) := by decide +kernel
theorem dX2_isTextRight_86 : decode cX2_isTextRight 86 = .ok (.iconst 0, 1) := by decide +kernel
theorem dX2_isTextRight_87 : decode cX2_isTextRight 87 = .ok (.ireturn, 1) := by decide +kernel
theorem dX2_isTextRight_88 : decode cX2_isTextRight 88 = .ok (.iload_n 3, 1) := by decide +kernel
theorem dX2_isTextRight_89 : decode cX2_isTextRight 89 = .ok (.aload_n 0, 1) := by decide +kernel
theorem dX2_isTextRight_90 : decode cX2_isTextRight 90 = .ok (.getfield 49, 3) := by decide +kernel
theorem dX2_isTextRight_93 : decode cX2_isTextRight 93 = .ok (.if_icmp .ne 36, 3) := by decide +kernel
theorem dX2_isTextRight_96 : decode cX2_isTextRight 96 = .ok (.aload_n 0, 1) := by decide +kernel
theorem dX2_isTextRight_97 : decode cX2_isTextRight 97 = .ok (.aload_n 1, 1) := by decide +kernel
theorem dX2_isTextRight_98 : decode cX2_isTextRight 98 = .ok (.iload 4, 2) := by decide +kernel
theorem dX2_isTextRight_100 : decode cX2_isTextRight 100 = .ok (.invokevirtual 100, 3) := by decide +kernel
theorem dX2_isTextRight_103 : decode cX2_isTextRight 103 = .ok (.aload_n 1, 1) := by decide +kernel
theorem dX2_isTextRight_104 : decode cX2_isTextRight 104 = .ok (.iload 4, 2) := by decide +kernel
theorem dX2_isTextRight_106 : decode cX2_isTextRight 106 = .ok (.iconst 1, 1) := by decide +kernel
theorem dX2_isTextRight_107 : decode cX2_isTextRight 107 = .ok (.iadd, 1) := by decide +kernel
theorem dX2_isTextRight_108 : decode cX2_isTextRight 108 = .ok (.invokevirtual 100, 3) := by decide +kernel
theorem dX2_isTextRight_111 : decode cX2_isTextRight 111 = .ok (.aload_n 1, 1) := by decide +kernel
theorem dX2_isTextRight_112 : decode cX2_isTextRight 112 = .ok (.iload 4, 2) := by decide +kernel
theorem dX2_isTextRight_114 : decode cX2_isTextRight 114 = .ok (.iconst 2, 1) := by decide +kernel
theorem dX2_isTextRight_115 : decode cX2_isTextRight 115 = .ok (.iadd, 1) := by decide +kernel
theorem dX2_isTextRight_116 : decode cX2_isTextRight 116 = .ok (.invokevirtual 100, 3) := by decide +kernel
theorem dX2_isTextRight_119 : decode cX2_isTextRight 119 = .ok (.invokevirtual 126, 3) := by decide +kernel
theorem dX2_isTextRight_122 : decode cX2_isTextRight 122 = .ok (.ifCond .eq 7, 3) := by decide +kernel
theorem dX2_isTextRight_125 : decode cX2_isTextRight 125 = .ok (.iconst 1, 1) := by decide +kernel
theorem dX2_isTextRight_126 : decode cX2_isTextRight 126 = .ok (.goto 4, 3) := by decide +kernel
theorem dX2_isTextRight_129 : decode cX2_isTextRight 129 = .ok (.iconst 0, 1) := by decide +kernel
theorem dX2_isTextRight_130 : decode cX2_isTextRight 130 = .ok (.ireturn, 1) := by decide +kernel
theorem dX2_isTextRight_131 : decode cX2_isTextRight 131 = .ok (.iload_n 3, 1) := by decide +kernel
theorem dX2_isTextRight_132 : decode cX2_isTextRight 132 = .ok (.aload_n 0, 1) := by decide +kernel
theorem dX2_isTextRight_133 : decode cX2_isTextRight 133 = .ok (.getfield 52, 3) := by decide +kernel
theorem dX2_isTextRight_136 : decode cX2_isTextRight 136 = .ok (.if_icmp .ne 23, 3) := by decide +kernel
theorem dX2_isTextRight_139 : decode cX2_isTextRight 139 = .ok (.iload_n 3, 1) := by decide +kernel
theorem dX2_isTextRight_140 : decode cX2_isTextRight 140 = .ok (.bipush 100, 2) := by decide +kernel
theorem dX2_isTextRight_142 : decode cX2_isTextRight 142 = .ok (.if_icmp .ge 17, 3) := by decide +kernel
theorem dX2_isTextRight_145 : decode cX2_isTextRight 145 = .ok (.aload_n 0, 1) := by decide +kernel
theorem dX2_isTextRight_146 : decode cX2_isTextRight 146 = .ok (.aload_n 1, 1) := by decide +kernel
theorem dX2_isTextRight_147 : decode cX2_isTextRight 147 = .ok (.iload 4, 2) := by decide +kernel
theorem dX2_isTextRight_149 : decode cX2_isTextRight 149 = .ok (.invokevirtual 130, 3) := by decide +kernel
theorem dX2_isTextRight_152 : decode cX2_isTextRight 152 = .ok (.ifCond .eq 7, 3) := by decide +kernel
theorem dX2_isTextRight_155 : decode cX2_isTextRight 155 = .ok (.iconst 1, 1) := by decide +kernel
theorem dX2_isTextRight_156 : decode cX2_isTextRight 156 = .ok (.goto 4, 3) := by decide +kernel
theorem dX2_isTextRight_159 : decode cX2_isTextRight 159 = .ok (.iconst 0, 1) := by decide +kernel
theorem dX2_isTextRight_160 : decode cX2_isTextRight 160 = .ok (.ireturn, 1) := by decide +kernel
theorem dX2_isTextRight_161 : decode cX2_isTextRight 161 = .ok (.iload_n 3, 1) := by decide +kernel
theorem dX2_isTextRight_162 : decode cX2_isTextRight 162 = .ok (.aload_n 0, 1) := by decide +kernel
theorem dX2_isTextRight_163 : decode cX2_isTextRight 163 = .ok (.getfield 55, 3) := by decide +kernel
theorem dX2_isTextRight_166 : decode cX2_isTextRight 166 = .ok (.if_icmp .ne 39, 3) := by decide +kernel
theorem dX2_isTextRight_169 : decode cX2_isTextRight 169 = .ok (.iload_n 3, 1) := by decide +kernel
theorem dX2_isTextRight_170 : decode cX2_isTextRight 170 = .ok (.bipush 100, 2) := by decide +kernel
theorem dX2_isTextRight_172 : decode cX2_isTextRight 172 = .ok (.if_icmp .ge 33, 3) := by decide +kernel
theorem dX2_isTextRight_175 : decode cX2_isTextRight 175 = .ok (.aload_n 0, 1) := by decide +kernel
theorem dX2_isTextRight_176 : decode cX2_isTextRight 176 = .ok (.aload_n 1, 1) := by decide +kernel
theorem dX2_isTextRight_177 : decode cX2_isTextRight 177 = .ok (.iload 4, 2) := by decide +kernel
theorem dX2_isTextRight_179 : decode cX2_isTextRight 179 = .ok (.invokevirtual 100, 3) := by decide +kernel
theorem dX2_isTextRight_182 : decode cX2_isTextRight 182 = .ok (.invokevirtual 64, 3) := by decide +kernel
theorem dX2_isTextRight_185 : decode cX2_isTextRight 185 = .ok (.ifCond .eq 20, 3) := by decide +kernel
theorem dX2_isTextRight_188 : decode cX2_isTextRight 188 = .ok (.aload_n 1, 1) := by decide +kernel
theorem dX2_isTextRight_189 : decode cX2_isTextRight 189 = .ok (.iload 4, 2) := by decide +kernel
theorem dX2_isTextRight_191 : decode cX2_isTextRight 191 = .ok (.iconst 1, 1) := by decide +kernel
theorem dX2_isTextRight_192 : decode cX2_isTextRight 192 = .ok (.iadd, 1) := by decide +kernel
theorem dX2_isTextRight_193 : decode cX2_isTextRight 193 = .ok (.invokevirtual 100, 3) := by decide +kernel
theorem dX2_isTextRight_196 : decode cX2_isTextRight 196 = .ok (.bipush 64, 2) := by decide +kernel
theorem dX2_isTextRight_198 : decode cX2_isTextRight 198 = .ok (.if_icmp .ge 7, 3) := by decide +kernel
theorem dX2_isTextRight_201 : decode cX2_isTextRight 201 = .ok (.iconst 1, 1) := by decide +kernel
theorem dX2_isTextRight_202 : decode cX2_isTextRight 202 = .ok (.goto 4, 3) := by decide +kernel
theorem dX2_isTextRight_205 : decode cX2_isTextRight 205 = .ok (.iconst 0, 1) := by decide +kernel
theorem dX2_isTextRight_206 : decode cX2_isTextRight 206 = .ok (.ireturn, 1) := by decide +kernel
theorem dX2_isTextRight_207 : decode cX2_isTextRight 207 = .ok (.aload_n 0, 1) := by decide +kernel
theorem dX2_isTextRight_208 : decode cX2_isTextRight 208 = .ok (.iload_n 3, 1) := by decide +kernel
theorem dX2_isTextRight_209 : decode cX2_isTextRight 209 = .ok (.invokevirtual 64, 3) := by decide +kernel
theorem dX2_isTextRight_212 : decode cX2_isTextRight 212 = .ok (.ireturn, 1) := by decide +kernel
theorem dX2_isTextRight_213 : decode cX2_isTextRight 213 = .ok (.iconst 0, 1) := by decide +kernel
theorem dX2_isTextRight_214 : decode cX2_isTextRight 214 = .ok (.ireturn, 1) := by decide +kernel
theorem dX2_isChange_0 : decode cX2_isChange 0 = .ok (.iload_n 1, 1) := by decide +kernel
theorem dX2_isChange_1 : decode cX2_isChange 1 = .ok (.bipush 64, 2) := by decide +kernel
theorem dX2_isChange_3 : decode cX2_isChange 3 = .ok (.if_icmp .ge 33, 3) := by decide +kernel
theorem dX2_isChange_6 : decode cX2_isChange 6 = .ok (.iload_n 2, 1) := by decide +kernel
theorem dX2_isChange_7 : decode cX2_isChange 7 = .ok (.bipush 64, 2) := by decide +kernel
theorem dX2_isChange_9 : decode cX2_isChange 9 = .ok (.if_icmp .ge 27, 3) := by decide +kernel
theorem dX2_isChange_12 : decode cX2_isChange 12 = .ok (.iload_n 3, 1) := by decide +kernel
theorem dX2_isChange_13 : decode cX2_isChange 13 = .ok (.iconst 1, 1) := by decide +kernel
theorem dX2_isChange_14 : decode cX2_isChange 14 = .ok (.if_icmp .gt 22, 3) := by decide +kernel
theorem dX2_isChange_17 : decode cX2_isChange 17 = .ok (.aload_n 0, 1) := by decide +kernel
theorem dX2_isChange_18 : decode cX2_isChange 18 = .ok (.iload_n 1, 1) := by decide +kernel
theorem dX2_isChange_19 : decode cX2_isChange 19 = .ok (.invokevirtual 68, 3) := by decide +kernel
theorem dX2_isChange_22 : decode cX2_isChange 22 = .ok (.iload_n 2, 1) := by decide +kernel
theorem dX2_isChange_23 : decode cX2_isChange 23 = .ok (.lushr, 1) := by decide +kernel
theorem dX2_isChange_24 : decode cX2_isChange 24 = .ok (.lconst 1, 1) := by decide +kernel
theorem dX2_isChange_25 : decode cX2_isChange 25 = .ok (.land, 1) := by decide +kernel
theorem dX2_isChange_26 : decode cX2_isChange 26 = .ok (.iload_n 3, 1) := by decide +kernel
theorem dX2_isChange_27 : decode cX2_isChange 27 = .ok (.i2l, 1) := by decide +kernel
theorem dX2_isChange_28 : decode cX2_isChange 28 = .ok (.lcmp, 1) := by decide +kernel
theorem dX2_isChange_29 : decode cX2_isChange 29 = .ok (.ifCond .eq 7, 3) := by decide +kernel
theorem dX2_isChange_32 : decode cX2_isChange 32 = .ok (.iconst 1, 1) := by decide +kernel
theorem dX2_isChange_33 : decode cX2_isChange 33 = .ok (.goto 4, 3) := by decide +kernel
theorem dX2_isChange_36 : decode cX2_isChange 36 = .ok (.iconst 0, 1) := by decide +kernel
theorem dX2_isChange_37 : decode cX2_isChange 37 = .ok (.ireturn, 1) := by decide +kernel
theorem dX2_haveCome_0 : decode cX2_haveCome 0 = .ok (.iconst 0, 1) := by decide +kernel
theorem dX2_haveCome_1 : decode cX2_haveCome 1 = .ok (.istore_n 3, 1) := by decide +kernel
theorem dX2_haveCome_2 : decode cX2_haveCome 2 = .ok (.iload_n 3, 1) := by decide +kernel
theorem dX2_haveCome_3 : decode cX2_haveCome 3 = .ok (.bipush 8, 2) := by decide +kernel
theorem dX2_haveCome_5 : decode cX2_haveCome 5 = .ok (.if_icmp .ge 33, 3) := by decide +kernel
theorem dX2_haveCome_8 : decode cX2_haveCome 8 = .ok (.aload_n 0, 1) := by decide +kernel
theorem dX2_haveCome_9 : decode cX2_haveCome 9 = .ok (.getfield 18, 3) := by decide +kernel
theorem dX2_haveCome_12 : decode cX2_haveCome 12 = .ok (.aload_n 1, 1) := by decide +kernel
theorem dX2_haveCome_13 : decode cX2_haveCome 13 = .ok (.iload_n 2, 1) := by decide +kernel
theorem dX2_haveCome_14 : decode cX2_haveCome 14 = .ok (.iconst 2, 1) := by decide +kernel
theorem dX2_haveCome_15 : decode cX2_haveCome 15 = .ok (.iload_n 3, 1) := by decide +kernel
theorem dX2_haveCome_16 : decode cX2_haveCome 16 = .ok (.imul, 1) := by decide +kernel
theorem dX2_haveCome_17 : decode cX2_haveCome 17 = .ok (.iadd, 1) := by decide +kernel
theorem dX2_haveCome_18 : decode cX2_haveCome 18 = .ok (.iconst 2, 1) := by decide +kernel
theorem dX2_haveCome_19 : decode cX2_haveCome 19 = .ok (.invokevirtual 113, 3) := by decide +kernel
theorem dX2_haveCome_22 : decode cX2_haveCome 22 = .ok (.l2i, 1) := by decide +kernel
theorem dX2_haveCome_23 : decode cX2_haveCome 23 = .ok (.invokevirtual 120, 3) := by decide +kernel
theorem dX2_haveCome_26 : decode cX2_haveCome 26 = .ok (.iconst (-1), 1) := by decide +kernel
theorem dX2_haveCome_27 : decode cX2_haveCome 27 = .ok (.if_icmp .ne 5, 3) := by decide +kernel
theorem dX2_haveCome_30 : decode cX2_haveCome 30 = .ok (.iconst 0, 1) := by decide +kernel
theorem dX2_haveCome_31 : decode cX2_haveCome 31 = .ok (.ireturn, 1) := by decide +kernel
theorem dX2_haveCome_32 : decode cX2_haveCome 32 = .ok (.iinc 3 1, 3) := by decide +kernel
theorem dX2_haveCome_35 : decode cX2_haveCome 35 = .ok (.goto (-33), 3) := by decide +kernel
theorem dX2_haveCome_38 : decode cX2_haveCome 38 = .ok (.iconst 1, 1) := by decide +kernel
theorem dX2_haveCome_39 : decode cX2_haveCome 39 = .ok (.ireturn, 1) := by decide +kernel
theorem dX2_takeRow_0 : decode cX2_takeRow 0 = .ok (.aload_n 1, 1) := by decide +kernel
theorem dX2_takeRow_1 : decode cX2_takeRow 1 = .ok (.iload_n 2, 1) := by decide +kernel
theorem dX2_takeRow_2 : decode cX2_takeRow 2 = .ok (.invokevirtual 100, 3) := by decide +kernel
theorem dX2_takeRow_5 : decode cX2_takeRow 5 = .ok (.istore_n 3, 1) := by decide +kernel
theorem dX2_takeRow_6 : decode cX2_takeRow 6 = .ok (.aload_n 1, 1) := by decide +kernel
theorem dX2_takeRow_7 : decode cX2_takeRow 7 = .ok (.iload_n 2, 1) := by decide +kernel
theorem dX2_takeRow_8 : decode cX2_takeRow 8 = .ok (.iconst 1, 1) := by decide +kernel
theorem dX2_takeRow_9 : decode cX2_takeRow 9 = .ok (.iadd, 1) := by decide +kernel
theorem dX2_takeRow_10 : decode cX2_takeRow 10 = .ok (.iconst 2, 1) := by decide +kernel
theorem dX2_takeRow_11 : decode cX2_takeRow 11 = .ok (.invokevirtual 113, 3) := by decide +kernel
theorem dX2_takeRow_14 : decode cX2_takeRow 14 = .ok (.l2i, 1) := by decide +kernel
theorem dX2_takeRow_15 : decode cX2_takeRow 15 = .ok (.istore 4, 2) := by decide +kernel
theorem dX2_takeRow_17 : decode cX2_takeRow 17 = .ok (.iload_n 2, 1) := by decide +kernel
theorem dX2_takeRow_18 : decode cX2_takeRow 18 = .ok (.iconst 4, 1) := by decide +kernel
theorem dX2_takeRow_19 : decode cX2_takeRow 19 = .ok (.iadd, 1) := by decide +kernel
theorem dX2_takeRow_20 : decode cX2_takeRow 20 = .ok (.istore 5, 2) := by decide +kernel
theorem dX2_takeRow_22 : decode cX2_takeRow 22 = .ok (.iload_n 3, 1) := by decide +kernel
theorem dX2_takeRow_23 : decode cX2_takeRow 23 = .ok (.tableswitch 98 1 4 #[29, 44, 65, 75], 29) := by decide +kernel
theorem dX2_takeRow_52 : decode cX2_takeRow 52 = .ok (.aload_n 0, 1) := by decide +kernel
theorem dX2_takeRow_53 : decode cX2_takeRow 53 = .ok (.getfield 18, 3) := by decide +kernel
theorem dX2_takeRow_56 : decode cX2_takeRow 56 = .ok (.iload 4, 2) := by decide +kernel
theorem dX2_takeRow_58 : decode cX2_takeRow 58 = .ok (.aload_n 1, 1) := by decide +kernel
theorem dX2_takeRow_59 : decode cX2_takeRow 59 = .ok (.iload 5, 2) := by decide +kernel
theorem dX2_takeRow_61 : decode cX2_takeRow 61 = .ok (.invokevirtual 133, 3) := by decide +kernel
theorem dX2_takeRow_64 : decode cX2_takeRow 64 = .ok (.goto 63, 3) := by decide +kernel
theorem dX2_takeRow_67 : decode cX2_takeRow 67 = .ok (.aload_n 0, 1) := by decide +kernel
theorem dX2_takeRow_68 : decode cX2_takeRow 68 = .ok (.aload_n 1, 1) := by decide +kernel
theorem dX2_takeRow_69 : decode cX2_takeRow 69 = .ok (.iload 5, 2) := by decide +kernel
theorem dX2_takeRow_71 : decode cX2_takeRow 71 = .ok (.invokevirtual 100, 3) := by decide +kernel
theorem dX2_takeRow_74 : decode cX2_takeRow 74 = .ok (.aload_n 1, 1) := by decide +kernel
theorem dX2_takeRow_75 : decode cX2_takeRow 75 = .ok (.iload 5, 2) := by decide +kernel
theorem dX2_takeRow_77 : decode cX2_takeRow 77 = .ok (.iconst 1, 1) := by decide +kernel
theorem dX2_takeRow_78 : decode cX2_takeRow 78 = .ok (.iadd, 1) := by decide +kernel
theorem dX2_takeRow_79 : decode cX2_takeRow 79 = .ok (.invokevirtual 100, 3) := by decide +kernel
theorem dX2_takeRow_82 : decode cX2_takeRow 82 = .ok (.invokevirtual 137, 3) := by decide +kernel
theorem dX2_takeRow_85 : decode cX2_takeRow 85 = .ok (.goto 42, 3) := by decide +kernel
theorem dX2_takeRow_88 : decode cX2_takeRow 88 = .ok (.aload_n 0, 1) := by decide +kernel
theorem dX2_takeRow_89 : decode cX2_takeRow 89 = .ok (.aload_n 1, 1) := by decide +kernel
theorem dX2_takeRow_90 : decode cX2_takeRow 90 = .ok (.iload 5, 2) := by decide +kernel
theorem dX2_takeRow_92 : decode cX2_takeRow 92 = .ok (.invokevirtual 141, 3) := by decide +kernel
theorem dX2_takeRow_95 : decode cX2_takeRow 95 = .ok (.goto 32, 3) := by decide +kernel
theorem dX2_takeRow_98 : decode cX2_takeRow 98 = .ok (.aload_n 0, 1) := by decide +kernel
theorem dX2_takeRow_99 : decode cX2_takeRow 99 = .ok (.aload_n 1, 1) := by decide +kernel
theorem dX2_takeRow_100 : decode cX2_takeRow 100 = .ok (.iload 5, 2) := by decide +kernel
theorem dX2_takeRow_102 : decode cX2_takeRow 102 = .ok (.invokevirtual 100, 3) := by decide +kernel
theorem dX2_takeRow_105 : decode cX2_takeRow 105 = .ok (.aload_n 1, 1) := by decide +kernel
theorem dX2_takeRow_106 : decode cX2_takeRow 106 = .ok (.iload 5, 2) := by decide +kernel
theorem dX2_takeRow_108 : decode cX2_takeRow 108 = .ok (.iconst 2, 1) := by decide +kernel
theorem dX2_takeRow_109 : decode cX2_takeRow 109 = .ok (.iadd, 1) := by decide +kernel
theorem dX2_takeRow_110 : decode cX2_takeRow 110 = .ok (.bipush 8, 2) := by decide +kernel
theorem dX2_takeRow_112 : decode cX2_takeRow 112 = .ok (.invokevirtual 113, 3) := by decide +kernel
theorem dX2_takeRow_115 : decode cX2_takeRow 115 = .ok (.invokevirtual 144, 3) := by decide +kernel
theorem dX2_takeRow_118 : decode cX2_takeRow 118 = .ok (.goto 9, 3) := by decide +kernel
theorem dX2_takeRow_121 : decode cX2_takeRow 121 = .ok (.aload_n 0, 1) := by decide +kernel
theorem dX2_takeRow_122 : decode cX2_takeRow 122 = .ok (.iload 4, 2) := by decide +kernel
theorem dX2_takeRow_124 : decode cX2_takeRow 124 = .ok (.invokevirtual 148, 3) := by decide +kernel
theorem dX2_takeRow_127 : decode cX2_takeRow 127 = .ok (.aload_n 0, 1) := by decide +kernel
theorem dX2_takeRow_128 : decode cX2_takeRow 128 = .ok (.dup, 1) := by decide +kernel
theorem dX2_takeRow_129 : decode cX2_takeRow 129 = .ok (.getfield 58, 3) := by decide +kernel
theorem dX2_takeRow_132 : decode cX2_takeRow 132 = .ok (.iconst 1, 1) := by decide +kernel
theorem dX2_takeRow_133 : decode cX2_takeRow 133 = .ok (.iadd, 1) := by decide +kernel
theorem dX2_takeRow_134 : decode cX2_takeRow 134 = .ok (.putfield 58, 3) := by decide +kernel
theorem dX2_takeRow_137 : decode cX2_takeRow 137 = .ok (.aload_n 0, 1) := by decide +kernel
theorem dX2_takeRow_138 : decode cX2_takeRow 138 = .ok (.dup, 1) := by decide +kernel
theorem dX2_takeRow_139 : decode cX2_takeRow 139 = .ok (.getfield 61, 3) := by decide +kernel
theorem dX2_takeRow_142 : decode cX2_takeRow 142 = .ok (.bipush 12, 2) := by decide +kernel
theorem dX2_takeRow_144 : decode cX2_takeRow 144 = .ok (.iload_n 3, 1) := by decide +kernel
theorem dX2_takeRow_145 : decode cX2_takeRow 145 = .ok (.invokestatic 106, 3) := by decide +kernel
theorem dX2_takeRow_148 : decode cX2_takeRow 148 = .ok (.iadd, 1) := by decide +kernel
theorem dX2_takeRow_149 : decode cX2_takeRow 149 = .ok (.iadd, 1) := by decide +kernel
theorem dX2_takeRow_150 : decode cX2_takeRow 150 = .ok (.putfield 61, 3) := by decide +kernel
theorem dX2_takeRow_153 : decode cX2_takeRow 153 = .ok (.return_, 1) := by decide +kernel
theorem dX2_takeChange_0 : decode cX2_takeChange 0 = .ok (.iload_n 1, 1) := by decide +kernel
theorem dX2_takeChange_1 : decode cX2_takeChange 1 = .ok (.ifCond .lt 21, 3) := by decide +kernel
theorem dX2_takeChange_4 : decode cX2_takeChange 4 = .ok (.iload_n 1, 1) := by decide +kernel
theorem dX2_takeChange_5 : decode cX2_takeChange 5 = .ok (.bipush 64, 2) := by decide +kernel
theorem dX2_takeChange_7 : decode cX2_takeChange 7 = .ok (.if_icmp .ge 15, 3) := by decide +kernel
theorem dX2_takeChange_10 : decode cX2_takeChange 10 = .ok (.aload_n 0, 1) := by decide +kernel
theorem dX2_takeChange_11 : decode cX2_takeChange 11 = .ok (.getfield 9, 3) := by decide +kernel
theorem dX2_takeChange_14 : decode cX2_takeChange 14 = .ok (.iload_n 1, 1) := by decide +kernel
theorem dX2_takeChange_15 : decode cX2_takeChange 15 = .ok (.dup2, 1) := by decide +kernel
theorem dX2_takeChange_16 : decode cX2_takeChange 16 = .ok (.laload, 1) := by decide +kernel
theorem dX2_takeChange_17 : decode cX2_takeChange 17 = .ok (.lconst 1, 1) := by decide +kernel
theorem dX2_takeChange_18 : decode cX2_takeChange 18 = .ok (.iload_n 2, 1) := by decide +kernel
theorem dX2_takeChange_19 : decode cX2_takeChange 19 = .ok (.lshl, 1) := by decide +kernel
theorem dX2_takeChange_20 : decode cX2_takeChange 20 = .ok (.lxor, 1) := by decide +kernel
theorem dX2_takeChange_21 : decode cX2_takeChange 21 = .ok (.lastore, 1) := by decide +kernel
theorem dX2_takeChange_22 : decode cX2_takeChange 22 = .ok (.aload_n 0, 1) := by decide +kernel
theorem dX2_takeChange_23 : decode cX2_takeChange 23 = .ok (.dup, 1) := by decide +kernel
theorem dX2_takeChange_24 : decode cX2_takeChange 24 = .ok (.getfield 49, 3) := by decide +kernel
theorem dX2_takeChange_27 : decode cX2_takeChange 27 = .ok (.iconst 1, 1) := by decide +kernel
theorem dX2_takeChange_28 : decode cX2_takeChange 28 = .ok (.iadd, 1) := by decide +kernel
theorem dX2_takeChange_29 : decode cX2_takeChange 29 = .ok (.putfield 49, 3) := by decide +kernel
theorem dX2_takeChange_32 : decode cX2_takeChange 32 = .ok (.return_, 1) := by decide +kernel
theorem dX2_takeVersion_0 : decode cX2_takeVersion 0 = .ok (.aload_n 0, 1) := by decide +kernel
theorem dX2_takeVersion_1 : decode cX2_takeVersion 1 = .ok (.getfield 52, 3) := by decide +kernel
theorem dX2_takeVersion_4 : decode cX2_takeVersion 4 = .ok (.ifCond .lt 12, 3) := by decide +kernel
theorem dX2_takeVersion_7 : decode cX2_takeVersion 7 = .ok (.aload_n 0, 1) := by decide +kernel
theorem dX2_takeVersion_8 : decode cX2_takeVersion 8 = .ok (.getfield 52, 3) := by decide +kernel
theorem dX2_takeVersion_11 : decode cX2_takeVersion 11 = .ok (.bipush 100, 2) := by decide +kernel
theorem dX2_takeVersion_13 : decode cX2_takeVersion 13 = .ok (.if_icmp .lt 4, 3) := by decide +kernel
theorem dX2_takeVersion_16 : decode cX2_takeVersion 16 = .ok (.return_, 1) := by decide +kernel
theorem dX2_takeVersion_17 : decode cX2_takeVersion 17 = .ok (.iconst 0, 1) := by decide +kernel
theorem dX2_takeVersion_18 : decode cX2_takeVersion 18 = .ok (.istore_n 3, 1) := by decide +kernel
theorem dX2_takeVersion_19 : decode cX2_takeVersion 19 = .ok (.iload_n 3, 1) := by decide +kernel
theorem dX2_takeVersion_20 : decode cX2_takeVersion 20 = .ok (.bipush 8, 2) := by decide +kernel
theorem dX2_takeVersion_22 : decode cX2_takeVersion 22 = .ok (.if_icmp .ge 41, 3) := by decide +kernel
theorem dX2_takeVersion_25 : decode cX2_takeVersion 25 = .ok (.aload_n 0, 1) := by decide +kernel
theorem dX2_takeVersion_26 : decode cX2_takeVersion 26 = .ok (.getfield 26, 3) := by decide +kernel
theorem dX2_takeVersion_29 : decode cX2_takeVersion 29 = .ok (.aload_n 0, 1) := by decide +kernel
theorem dX2_takeVersion_30 : decode cX2_takeVersion 30 = .ok (.getfield 52, 3) := by decide +kernel
theorem dX2_takeVersion_33 : decode cX2_takeVersion 33 = .ok (.bipush 8, 2) := by decide +kernel
theorem dX2_takeVersion_35 : decode cX2_takeVersion 35 = .ok (.imul, 1) := by decide +kernel
theorem dX2_takeVersion_36 : decode cX2_takeVersion 36 = .ok (.iload_n 3, 1) := by decide +kernel
theorem dX2_takeVersion_37 : decode cX2_takeVersion 37 = .ok (.iadd, 1) := by decide +kernel
theorem dX2_takeVersion_38 : decode cX2_takeVersion 38 = .ok (.aload_n 0, 1) := by decide +kernel
theorem dX2_takeVersion_39 : decode cX2_takeVersion 39 = .ok (.getfield 18, 3) := by decide +kernel
theorem dX2_takeVersion_42 : decode cX2_takeVersion 42 = .ok (.aload_n 1, 1) := by decide +kernel
theorem dX2_takeVersion_43 : decode cX2_takeVersion 43 = .ok (.iload_n 2, 1) := by decide +kernel
theorem dX2_takeVersion_44 : decode cX2_takeVersion 44 = .ok (.iconst 2, 1) := by decide +kernel
theorem dX2_takeVersion_45 : decode cX2_takeVersion 45 = .ok (.iload_n 3, 1) := by decide +kernel
theorem dX2_takeVersion_46 : decode cX2_takeVersion 46 = .ok (.imul, 1) := by decide +kernel
theorem dX2_takeVersion_47 : decode cX2_takeVersion 47 = .ok (.iadd, 1) := by decide +kernel
theorem dX2_takeVersion_48 : decode cX2_takeVersion 48 = .ok (.iconst 2, 1) := by decide +kernel
theorem dX2_takeVersion_49 : decode cX2_takeVersion 49 = .ok (.invokevirtual 113, 3) := by decide +kernel
theorem dX2_takeVersion_52 : decode cX2_takeVersion 52 = .ok (.l2i, 1) := by decide +kernel
theorem dX2_takeVersion_53 : decode cX2_takeVersion 53 = .ok (.invokevirtual 120, 3) := by decide +kernel
theorem dX2_takeVersion_56 : decode cX2_takeVersion 56 = .ok (.iastore, 1) := by decide +kernel
theorem dX2_takeVersion_57 : decode cX2_takeVersion 57 = .ok (.iinc 3 1, 3) := by decide +kernel
theorem dX2_takeVersion_60 : decode cX2_takeVersion 60 = .ok (.goto (-41), 3) := by decide +kernel
theorem dX2_takeVersion_63 : decode cX2_takeVersion 63 = .ok (.aload_n 0, 1) := by decide +kernel
theorem dX2_takeVersion_64 : decode cX2_takeVersion 64 = .ok (.getfield 22, 3) := by decide +kernel
theorem dX2_takeVersion_67 : decode cX2_takeVersion 67 = .ok (.aload_n 0, 1) := by decide +kernel
theorem dX2_takeVersion_68 : decode cX2_takeVersion 68 = .ok (.getfield 52, 3) := by decide +kernel
theorem dX2_takeVersion_71 : decode cX2_takeVersion 71 = .ok (.iconst 1, 1) := by decide +kernel
theorem dX2_takeVersion_72 : decode cX2_takeVersion 72 = .ok (.bastore, 1) := by decide +kernel
theorem dX2_takeVersion_73 : decode cX2_takeVersion 73 = .ok (.aload_n 0, 1) := by decide +kernel
theorem dX2_takeVersion_74 : decode cX2_takeVersion 74 = .ok (.aload_n 0, 1) := by decide +kernel
theorem dX2_takeVersion_75 : decode cX2_takeVersion 75 = .ok (.getfield 52, 3) := by decide +kernel
theorem dX2_takeVersion_78 : decode cX2_takeVersion 78 = .ok (.iconst 1, 1) := by decide +kernel
theorem dX2_takeVersion_79 : decode cX2_takeVersion 79 = .ok (.invokevirtual 151, 3) := by decide +kernel
theorem dX2_takeVersion_82 : decode cX2_takeVersion 82 = .ok (.aload_n 0, 1) := by decide +kernel
theorem dX2_takeVersion_83 : decode cX2_takeVersion 83 = .ok (.dup, 1) := by decide +kernel
theorem dX2_takeVersion_84 : decode cX2_takeVersion 84 = .ok (.getfield 52, 3) := by decide +kernel
theorem dX2_takeVersion_87 : decode cX2_takeVersion 87 = .ok (.iconst 1, 1) := by decide +kernel
theorem dX2_takeVersion_88 : decode cX2_takeVersion 88 = .ok (.iadd, 1) := by decide +kernel
theorem dX2_takeVersion_89 : decode cX2_takeVersion 89 = .ok (.putfield 52, 3) := by decide +kernel
theorem dX2_takeVersion_92 : decode cX2_takeVersion 92 = .ok (.return_, 1) := by decide +kernel
theorem dX2_takeAnswer_0 : decode cX2_takeAnswer 0 = .ok (.aload_n 0, 1) := by decide +kernel
theorem dX2_takeAnswer_1 : decode cX2_takeAnswer 1 = .ok (.getfield 55, 3) := by decide +kernel
theorem dX2_takeAnswer_4 : decode cX2_takeAnswer 4 = .ok (.ifCond .lt 12, 3) := by decide +kernel
theorem dX2_takeAnswer_7 : decode cX2_takeAnswer 7 = .ok (.aload_n 0, 1) := by decide +kernel
theorem dX2_takeAnswer_8 : decode cX2_takeAnswer 8 = .ok (.getfield 55, 3) := by decide +kernel
theorem dX2_takeAnswer_11 : decode cX2_takeAnswer 11 = .ok (.bipush 100, 2) := by decide +kernel
theorem dX2_takeAnswer_13 : decode cX2_takeAnswer 13 = .ok (.if_icmp .lt 4, 3) := by decide +kernel
theorem dX2_takeAnswer_16 : decode cX2_takeAnswer 16 = .ok (.return_, 1) := by decide +kernel
theorem dX2_takeAnswer_17 : decode cX2_takeAnswer 17 = .ok (.aload_n 0, 1) := by decide +kernel
theorem dX2_takeAnswer_18 : decode cX2_takeAnswer 18 = .ok (.getfield 30, 3) := by decide +kernel
theorem dX2_takeAnswer_21 : decode cX2_takeAnswer 21 = .ok (.aload_n 0, 1) := by decide +kernel
theorem dX2_takeAnswer_22 : decode cX2_takeAnswer 22 = .ok (.getfield 55, 3) := by decide +kernel
theorem dX2_takeAnswer_25 : decode cX2_takeAnswer 25 = .ok (.iload_n 1, 1) := by decide +kernel
theorem dX2_takeAnswer_26 : decode cX2_takeAnswer 26 = .ok (.iastore, 1) := by decide +kernel
theorem dX2_takeAnswer_27 : decode cX2_takeAnswer 27 = .ok (.aload_n 0, 1) := by decide +kernel
theorem dX2_takeAnswer_28 : decode cX2_takeAnswer 28 = .ok (.getfield 33, 3) := by decide +kernel
theorem dX2_takeAnswer_31 : decode cX2_takeAnswer 31 = .ok (.aload_n 0, 1) := by decide +kernel
theorem dX2_takeAnswer_32 : decode cX2_takeAnswer 32 = .ok (.getfield 55, 3) := by decide +kernel
theorem dX2_takeAnswer_35 : decode cX2_takeAnswer 35 = .ok (.lload_n 2, 1) := by decide +kernel
theorem dX2_takeAnswer_36 : decode cX2_takeAnswer 36 = .ok (.lastore, 1) := by decide +kernel
theorem dX2_takeAnswer_37 : decode cX2_takeAnswer 37 = .ok (.aload_n 0, 1) := by decide +kernel
theorem dX2_takeAnswer_38 : decode cX2_takeAnswer 38 = .ok (.dup, 1) := by decide +kernel
theorem dX2_takeAnswer_39 : decode cX2_takeAnswer 39 = .ok (.getfield 55, 3) := by decide +kernel
theorem dX2_takeAnswer_42 : decode cX2_takeAnswer 42 = .ok (.iconst 1, 1) := by decide +kernel
theorem dX2_takeAnswer_43 : decode cX2_takeAnswer 43 = .ok (.iadd, 1) := by decide +kernel
theorem dX2_takeAnswer_44 : decode cX2_takeAnswer 44 = .ok (.putfield 55, 3) := by decide +kernel
theorem dX2_takeAnswer_47 : decode cX2_takeAnswer 47 = .ok (.return_, 1) := by decide +kernel
theorem dX2_takeDrop_0 : decode cX2_takeDrop 0 = .ok (.aload_n 0, 1) := by decide +kernel
theorem dX2_takeDrop_1 : decode cX2_takeDrop 1 = .ok (.iload_n 1, 1) := by decide +kernel
theorem dX2_takeDrop_2 : decode cX2_takeDrop 2 = .ok (.invokevirtual 64, 3) := by decide +kernel
theorem dX2_takeDrop_5 : decode cX2_takeDrop 5 = .ok (.ifCond .eq 16, 3) := by decide +kernel
theorem dX2_takeDrop_8 : decode cX2_takeDrop 8 = .ok (.aload_n 0, 1) := by decide +kernel
theorem dX2_takeDrop_9 : decode cX2_takeDrop 9 = .ok (.getfield 22, 3) := by decide +kernel
theorem dX2_takeDrop_12 : decode cX2_takeDrop 12 = .ok (.iload_n 1, 1) := by decide +kernel
theorem dX2_takeDrop_13 : decode cX2_takeDrop 13 = .ok (.iconst 0, 1) := by decide +kernel
theorem dX2_takeDrop_14 : decode cX2_takeDrop 14 = .ok (.bastore, 1) := by decide +kernel
theorem dX2_takeDrop_15 : decode cX2_takeDrop 15 = .ok (.aload_n 0, 1) := by decide +kernel
theorem dX2_takeDrop_16 : decode cX2_takeDrop 16 = .ok (.iload_n 1, 1) := by decide +kernel
theorem dX2_takeDrop_17 : decode cX2_takeDrop 17 = .ok (.iconst (-1), 1) := by decide +kernel
theorem dX2_takeDrop_18 : decode cX2_takeDrop 18 = .ok (.invokevirtual 151, 3) := by decide +kernel
theorem dX2_takeDrop_21 : decode cX2_takeDrop 21 = .ok (.return_, 1) := by decide +kernel
theorem dX2_nameChunks_0 : decode cX2_nameChunks 0 = .ok (.iconst 0, 1) := by decide +kernel
theorem dX2_nameChunks_1 : decode cX2_nameChunks 1 = .ok (.istore_n 3, 1) := by decide +kernel
theorem dX2_nameChunks_2 : decode cX2_nameChunks 2 = .ok (.iload_n 3, 1) := by decide +kernel
theorem dX2_nameChunks_3 : decode cX2_nameChunks 3 = .ok (.bipush 8, 2) := by decide +kernel
theorem dX2_nameChunks_5 : decode cX2_nameChunks 5 = .ok (.if_icmp .ge 32, 3) := by decide +kernel
theorem dX2_nameChunks_8 : decode cX2_nameChunks 8 = .ok (.aload_n 0, 1) := by decide +kernel
theorem dX2_nameChunks_9 : decode cX2_nameChunks 9 = .ok (.iload_n 1, 1) := by decide +kernel
theorem dX2_nameChunks_10 : decode cX2_nameChunks 10 = .ok (.iload_n 3, 1) := by decide +kernel
theorem dX2_nameChunks_11 : decode cX2_nameChunks 11 = .ok (.invokevirtual 154, 3) := by decide +kernel
theorem dX2_nameChunks_14 : decode cX2_nameChunks 14 = .ok (.ifCond .ne 17, 3) := by decide +kernel
theorem dX2_nameChunks_17 : decode cX2_nameChunks 17 = .ok (.aload_n 0, 1) := by decide +kernel
theorem dX2_nameChunks_18 : decode cX2_nameChunks 18 = .ok (.getfield 18, 3) := by decide +kernel
theorem dX2_nameChunks_21 : decode cX2_nameChunks 21 = .ok (.aload_n 0, 1) := by decide +kernel
theorem dX2_nameChunks_22 : decode cX2_nameChunks 22 = .ok (.iload_n 1, 1) := by decide +kernel
theorem dX2_nameChunks_23 : decode cX2_nameChunks 23 = .ok (.iload_n 3, 1) := by decide +kernel
theorem dX2_nameChunks_24 : decode cX2_nameChunks 24 = .ok (.invokevirtual 72, 3) := by decide +kernel
theorem dX2_nameChunks_27 : decode cX2_nameChunks 27 = .ok (.iload_n 2, 1) := by decide +kernel
theorem dX2_nameChunks_28 : decode cX2_nameChunks 28 = .ok (.invokevirtual 158, 3) := by decide +kernel
theorem dX2_nameChunks_31 : decode cX2_nameChunks 31 = .ok (.iinc 3 1, 3) := by decide +kernel
theorem dX2_nameChunks_34 : decode cX2_nameChunks 34 = .ok (.goto (-32), 3) := by decide +kernel
theorem dX2_nameChunks_37 : decode cX2_nameChunks 37 = .ok (.return_, 1) := by decide +kernel
theorem dX2_hasBefore_0 : decode cX2_hasBefore 0 = .ok (.iconst 0, 1) := by decide +kernel
theorem dX2_hasBefore_1 : decode cX2_hasBefore 1 = .ok (.istore_n 3, 1) := by decide +kernel
theorem dX2_hasBefore_2 : decode cX2_hasBefore 2 = .ok (.iload_n 3, 1) := by decide +kernel
theorem dX2_hasBefore_3 : decode cX2_hasBefore 3 = .ok (.iload_n 2, 1) := by decide +kernel
theorem dX2_hasBefore_4 : decode cX2_hasBefore 4 = .ok (.if_icmp .ge 26, 3) := by decide +kernel
theorem dX2_hasBefore_7 : decode cX2_hasBefore 7 = .ok (.aload_n 0, 1) := by decide +kernel
theorem dX2_hasBefore_8 : decode cX2_hasBefore 8 = .ok (.iload_n 1, 1) := by decide +kernel
theorem dX2_hasBefore_9 : decode cX2_hasBefore 9 = .ok (.iload_n 3, 1) := by decide +kernel
theorem dX2_hasBefore_10 : decode cX2_hasBefore 10 = .ok (.invokevirtual 72, 3) := by decide +kernel
theorem dX2_hasBefore_13 : decode cX2_hasBefore 13 = .ok (.aload_n 0, 1) := by decide +kernel
theorem dX2_hasBefore_14 : decode cX2_hasBefore 14 = .ok (.iload_n 1, 1) := by decide +kernel
theorem dX2_hasBefore_15 : decode cX2_hasBefore 15 = .ok (.iload_n 2, 1) := by decide +kernel
theorem dX2_hasBefore_16 : decode cX2_hasBefore 16 = .ok (.invokevirtual 72, 3) := by decide +kernel
theorem dX2_hasBefore_19 : decode cX2_hasBefore 19 = .ok (.if_icmp .ne 5, 3) := by decide +kernel
theorem dX2_hasBefore_22 : decode cX2_hasBefore 22 = .ok (.iconst 1, 1) := by decide +kernel
theorem dX2_hasBefore_23 : decode cX2_hasBefore 23 = .ok (.ireturn, 1) := by decide +kernel
theorem dX2_hasBefore_24 : decode cX2_hasBefore 24 = .ok (.iinc 3 1, 3) := by decide +kernel
theorem dX2_hasBefore_27 : decode cX2_hasBefore 27 = .ok (.goto (-25), 3) := by decide +kernel
theorem dX2_hasBefore_30 : decode cX2_hasBefore 30 = .ok (.iconst 0, 1) := by decide +kernel
theorem dX2_hasBefore_31 : decode cX2_hasBefore 31 = .ok (.ireturn, 1) := by decide +kernel
theorem dX3_init_0 : decode cX3_init 0 = .ok (.aload_n 0, 1) := by decide +kernel
theorem dX3_init_1 : decode cX3_init 1 = .ok (.invokespecial 3, 3) := by decide +kernel
theorem dX3_init_4 : decode cX3_init 4 = .ok (.aload_n 0, 1) := by decide +kernel
theorem dX3_init_5 : decode cX3_init 5 = .ok (.bipush 8, 2) := by decide +kernel
theorem dX3_init_7 : decode cX3_init 7 = .ok (.newarray .int, 2) := by decide +kernel
theorem dX3_init_9 : decode cX3_init 9 = .ok (.putfield 9, 3) := by decide +kernel
theorem dX3_init_12 : decode cX3_init 12 = .ok (.aload_n 0, 1) := by decide +kernel
theorem dX3_init_13 : decode cX3_init 13 = .ok (.bipush 8, 2) := by decide +kernel
theorem dX3_init_15 : decode cX3_init 15 = .ok (.newarray .boolean, 2) := by decide +kernel
theorem dX3_init_17 : decode cX3_init 17 = .ok (.putfield 15, 3) := by decide +kernel
theorem dX3_init_20 : decode cX3_init 20 = .ok (.aload_n 0, 1) := by decide +kernel
theorem dX3_init_21 : decode cX3_init 21 = .ok (.sipush 323, 3) := by decide +kernel
theorem dX3_init_24 : decode cX3_init 24 = .ok (.newarray .boolean, 2) := by decide +kernel
theorem dX3_init_26 : decode cX3_init 26 = .ok (.putfield 19, 3) := by decide +kernel
theorem dX3_init_29 : decode cX3_init 29 = .ok (.return_, 1) := by decide +kernel
theorem dX3_numberOf_0 : decode cX3_numberOf 0 = .ok (.iload_n 1, 1) := by decide +kernel
theorem dX3_numberOf_1 : decode cX3_numberOf 1 = .ok (.ifCond .lt 18, 3) := by decide +kernel
theorem dX3_numberOf_4 : decode cX3_numberOf 4 = .ok (.iload_n 1, 1) := by decide +kernel
theorem dX3_numberOf_5 : decode cX3_numberOf 5 = .ok (.bipush 8, 2) := by decide +kernel
theorem dX3_numberOf_7 : decode cX3_numberOf 7 = .ok (.if_icmp .ge 12, 3) := by decide +kernel
theorem dX3_numberOf_10 : decode cX3_numberOf 10 = .ok (.aload_n 0, 1) := by decide +kernel
theorem dX3_numberOf_11 : decode cX3_numberOf 11 = .ok (.getfield 9, 3) := by decide +kernel
theorem dX3_numberOf_14 : decode cX3_numberOf 14 = .ok (.iload_n 1, 1) := by decide +kernel
theorem dX3_numberOf_15 : decode cX3_numberOf 15 = .ok (.iaload, 1) := by decide +kernel
theorem dX3_numberOf_16 : decode cX3_numberOf 16 = .ok (.goto 4, 3) := by decide +kernel
theorem dX3_numberOf_19 : decode cX3_numberOf 19 = .ok (.iconst (-1), 1) := by decide +kernel
theorem dX3_numberOf_20 : decode cX3_numberOf 20 = .ok (.ireturn, 1) := by decide +kernel
theorem dX3_isNew_0 : decode cX3_isNew 0 = .ok (.iload_n 1, 1) := by decide +kernel
theorem dX3_isNew_1 : decode cX3_isNew 1 = .ok (.ifCond .lt 22, 3) := by decide +kernel
theorem dX3_isNew_4 : decode cX3_isNew 4 = .ok (.iload_n 1, 1) := by decide +kernel
theorem dX3_isNew_5 : decode cX3_isNew 5 = .ok (.bipush 8, 2) := by decide +kernel
theorem dX3_isNew_7 : decode cX3_isNew 7 = .ok (.if_icmp .ge 16, 3) := by decide +kernel
theorem dX3_isNew_10 : decode cX3_isNew 10 = .ok (.aload_n 0, 1) := by decide +kernel
theorem dX3_isNew_11 : decode cX3_isNew 11 = .ok (.getfield 15, 3) := by decide +kernel
theorem dX3_isNew_14 : decode cX3_isNew 14 = .ok (.iload_n 1, 1) := by decide +kernel
theorem dX3_isNew_15 : decode cX3_isNew 15 = .ok (.baload, 1) := by decide +kernel
theorem dX3_isNew_16 : decode cX3_isNew 16 = .ok (.ifCond .eq 7, 3) := by decide +kernel
theorem dX3_isNew_19 : decode cX3_isNew 19 = .ok (.iconst 1, 1) := by decide +kernel
theorem dX3_isNew_20 : decode cX3_isNew 20 = .ok (.goto 4, 3) := by decide +kernel
theorem dX3_isNew_23 : decode cX3_isNew 23 = .ok (.iconst 0, 1) := by decide +kernel
theorem dX3_isNew_24 : decode cX3_isNew 24 = .ok (.ireturn, 1) := by decide +kernel
theorem dX3_bytes_0 : decode cX3_bytes 0 = .ok (.aload_n 0, 1) := by decide +kernel
theorem dX3_bytes_1 : decode cX3_bytes 1 = .ok (.getfield 22, 3) := by decide +kernel
theorem dX3_bytes_4 : decode cX3_bytes 4 = .ok (.bipush 76, 2) := by decide +kernel
theorem dX3_bytes_6 : decode cX3_bytes 6 = .ok (.imul, 1) := by decide +kernel
theorem dX3_bytes_7 : decode cX3_bytes 7 = .ok (.bipush 16, 2) := by decide +kernel
theorem dX3_bytes_9 : decode cX3_bytes 9 = .ok (.iadd, 1) := by decide +kernel
theorem dX3_bytes_10 : decode cX3_bytes 10 = .ok (.bipush 12, 2) := by decide +kernel
theorem dX3_bytes_12 : decode cX3_bytes 12 = .ok (.iadd, 1) := by decide +kernel
theorem dX3_bytes_13 : decode cX3_bytes 13 = .ok (.ireturn, 1) := by decide +kernel
theorem dX3_numberChunks_0 : decode cX3_numberChunks 0 = .ok (.aload_n 0, 1) := by decide +kernel
theorem dX3_numberChunks_1 : decode cX3_numberChunks 1 = .ok (.iconst 0, 1) := by decide +kernel
theorem dX3_numberChunks_2 : decode cX3_numberChunks 2 = .ok (.putfield 22, 3) := by decide +kernel
theorem dX3_numberChunks_5 : decode cX3_numberChunks 5 = .ok (.aload_n 1, 1) := by decide +kernel
theorem dX3_numberChunks_6 : decode cX3_numberChunks 6 = .ok (.getfield 26, 3) := by decide +kernel
theorem dX3_numberChunks_9 : decode cX3_numberChunks 9 = .ok (.aload_n 0, 1) := by decide +kernel
theorem dX3_numberChunks_10 : decode cX3_numberChunks 10 = .ok (.getfield 19, 3) := by decide +kernel
theorem dX3_numberChunks_13 : decode cX3_numberChunks 13 = .ok (.invokevirtual 32, 3) := by decide +kernel
theorem dX3_numberChunks_16 : decode cX3_numberChunks 16 = .ok (.iconst 0, 1) := by decide +kernel
theorem dX3_numberChunks_17 : decode cX3_numberChunks 17 = .ok (.istore_n 2, 1) := by decide +kernel
theorem dX3_numberChunks_18 : decode cX3_numberChunks 18 = .ok (.iload_n 2, 1) := by decide +kernel
theorem dX3_numberChunks_19 : decode cX3_numberChunks 19 = .ok (.bipush 8, 2) := by decide +kernel
theorem dX3_numberChunks_21 : decode cX3_numberChunks 21 = .ok (.if_icmp .ge 89, 3) := by decide +kernel
theorem dX3_numberChunks_24 : decode cX3_numberChunks 24 = .ok (.aload_n 1, 1) := by decide +kernel
theorem dX3_numberChunks_25 : decode cX3_numberChunks 25 = .ok (.getfield 26, 3) := by decide +kernel
theorem dX3_numberChunks_28 : decode cX3_numberChunks 28 = .ok (.aload_n 1, 1) := by decide +kernel
theorem dX3_numberChunks_29 : decode cX3_numberChunks 29 = .ok (.iload_n 2, 1) := by decide +kernel
theorem dX3_numberChunks_30 : decode cX3_numberChunks 30 = .ok (.invokevirtual 38, 3) := by decide +kernel
theorem dX3_numberChunks_33 : decode cX3_numberChunks 33 = .ok (.istore_n 3, 1) := by decide +kernel
theorem dX3_numberChunks_34 : decode cX3_numberChunks 34 = .ok (.iload_n 3, 1) := by decide +kernel
theorem dX3_numberChunks_35 : decode cX3_numberChunks 35 = .ok (.iconst (-1), 1) := by decide +kernel
theorem dX3_numberChunks_36 : decode cX3_numberChunks 36 = .ok (.if_icmp .ne 10, 3) := by decide +kernel
theorem dX3_numberChunks_39 : decode cX3_numberChunks 39 = .ok (.aload_n 0, 1) := by decide +kernel
theorem dX3_numberChunks_40 : decode cX3_numberChunks 40 = .ok (.aload_n 1, 1) := by decide +kernel
theorem dX3_numberChunks_41 : decode cX3_numberChunks 41 = .ok (.iload_n 2, 1) := by decide +kernel
theorem dX3_numberChunks_42 : decode cX3_numberChunks 42 = .ok (.invokevirtual 42, 3) := by decide +kernel
theorem dX3_numberChunks_45 : decode cX3_numberChunks 45 = .ok (.istore_n 3, 1) := by decide +kernel
theorem dX3_numberChunks_46 : decode cX3_numberChunks 46 = .ok (.aload_n 0, 1) := by decide +kernel
theorem dX3_numberChunks_47 : decode cX3_numberChunks 47 = .ok (.getfield 15, 3) := by decide +kernel
theorem dX3_numberChunks_50 : decode cX3_numberChunks 50 = .ok (.iload_n 2, 1) := by decide +kernel
theorem dX3_numberChunks_51 : decode cX3_numberChunks 51 = .ok (.iload_n 3, 1) := by decide +kernel
theorem dX3_numberChunks_52 : decode cX3_numberChunks 52 = .ok (.iconst (-1), 1) := by decide +kernel
theorem dX3_numberChunks_53 : decode cX3_numberChunks 53 = .ok (.if_icmp .ne 7, 3) := by decide +kernel
theorem dX3_numberChunks_56 : decode cX3_numberChunks 56 = .ok (.iconst 1, 1) := by decide +kernel
theorem dX3_numberChunks_57 : decode cX3_numberChunks 57 = .ok (.goto 4, 3) := by decide +kernel
theorem dX3_numberChunks_60 : decode cX3_numberChunks 60 = .ok (.iconst 0, 1) := by decide +kernel
theorem dX3_numberChunks_61 : decode cX3_numberChunks 61 = .ok (.bastore, 1) := by decide +kernel
theorem dX3_numberChunks_62 : decode cX3_numberChunks 62 = .ok (.aload_n 0, 1) := by decide +kernel
theorem dX3_numberChunks_63 : decode cX3_numberChunks 63 = .ok (.getfield 15, 3) := by decide +kernel
theorem dX3_numberChunks_66 : decode cX3_numberChunks 66 = .ok (.iload_n 2, 1) := by decide +kernel
theorem dX3_numberChunks_67 : decode cX3_numberChunks 67 = .ok (.baload, 1) := by decide +kernel
theorem dX3_numberChunks_68 : decode cX3_numberChunks 68 = .ok (.ifCond .eq 22, 3) := by decide +kernel
theorem dX3_numberChunks_71 : decode cX3_numberChunks 71 = .ok (.aload_n 0, 1) := by decide +kernel
theorem dX3_numberChunks_72 : decode cX3_numberChunks 72 = .ok (.aload_n 1, 1) := by decide +kernel
theorem dX3_numberChunks_73 : decode cX3_numberChunks 73 = .ok (.getfield 45, 3) := by decide +kernel
theorem dX3_numberChunks_76 : decode cX3_numberChunks 76 = .ok (.invokevirtual 48, 3) := by decide +kernel
theorem dX3_numberChunks_79 : decode cX3_numberChunks 79 = .ok (.istore_n 3, 1) := by decide +kernel
theorem dX3_numberChunks_80 : decode cX3_numberChunks 80 = .ok (.aload_n 0, 1) := by decide +kernel
theorem dX3_numberChunks_81 : decode cX3_numberChunks 81 = .ok (.dup, 1) := by decide +kernel
theorem dX3_numberChunks_82 : decode cX3_numberChunks 82 = .ok (.getfield 22, 3) := by decide +kernel
theorem dX3_numberChunks_85 : decode cX3_numberChunks 85 = .ok (.iconst 1, 1) := by decide +kernel
theorem dX3_numberChunks_86 : decode cX3_numberChunks 86 = .ok (.iadd, 1) := by decide +kernel
theorem dX3_numberChunks_87 : decode cX3_numberChunks 87 = .ok (.putfield 22, 3) := by decide +kernel
theorem dX3_numberChunks_90 : decode cX3_numberChunks 90 = .ok (.iload_n 3, 1) := by decide +kernel
theorem dX3_numberChunks_91 : decode cX3_numberChunks 91 = .ok (.iconst (-1), 1) := by decide +kernel
theorem dX3_numberChunks_92 : decode cX3_numberChunks 92 = .ok (.if_icmp .ne 5, 3) := by decide +kernel
theorem dX3_numberChunks_95 : decode cX3_numberChunks 95 = .ok (.iconst 0, 1) := by decide +kernel
theorem dX3_numberChunks_96 : decode cX3_numberChunks 96 = .ok (.ireturn, 1) := by decide +kernel
theorem dX3_numberChunks_97 : decode cX3_numberChunks 97 = .ok (.aload_n 0, 1) := by decide +kernel
theorem dX3_numberChunks_98 : decode cX3_numberChunks 98 = .ok (.getfield 9, 3) := by decide +kernel
theorem dX3_numberChunks_101 : decode cX3_numberChunks 101 = .ok (.iload_n 2, 1) := by decide +kernel
theorem dX3_numberChunks_102 : decode cX3_numberChunks 102 = .ok (.iload_n 3, 1) := by decide +kernel
theorem dX3_numberChunks_103 : decode cX3_numberChunks 103 = .ok (.iastore, 1) := by decide +kernel
theorem dX3_numberChunks_104 : decode cX3_numberChunks 104 = .ok (.iinc 2 1, 3) := by decide +kernel
theorem dX3_numberChunks_107 : decode cX3_numberChunks 107 = .ok (.goto (-89), 3) := by decide +kernel
theorem dX3_numberChunks_110 : decode cX3_numberChunks 110 = .ok (.iconst 1, 1) := by decide +kernel
theorem dX3_numberChunks_111 : decode cX3_numberChunks 111 = .ok (.ireturn, 1) := by decide +kernel
theorem dX3_alikeBefore_0 : decode cX3_alikeBefore 0 = .ok (.iconst 0, 1) := by decide +kernel
theorem dX3_alikeBefore_1 : decode cX3_alikeBefore 1 = .ok (.istore_n 3, 1) := by decide +kernel
theorem dX3_alikeBefore_2 : decode cX3_alikeBefore 2 = .ok (.iload_n 3, 1) := by decide +kernel
theorem dX3_alikeBefore_3 : decode cX3_alikeBefore 3 = .ok (.iload_n 2, 1) := by decide +kernel
theorem dX3_alikeBefore_4 : decode cX3_alikeBefore 4 = .ok (.if_icmp .ge 25, 3) := by decide +kernel
theorem dX3_alikeBefore_7 : decode cX3_alikeBefore 7 = .ok (.aload_n 0, 1) := by decide +kernel
theorem dX3_alikeBefore_8 : decode cX3_alikeBefore 8 = .ok (.aload_n 1, 1) := by decide +kernel
theorem dX3_alikeBefore_9 : decode cX3_alikeBefore 9 = .ok (.iload_n 3, 1) := by decide +kernel
theorem dX3_alikeBefore_10 : decode cX3_alikeBefore 10 = .ok (.iload_n 2, 1) := by decide +kernel
theorem dX3_alikeBefore_11 : decode cX3_alikeBefore 11 = .ok (.invokevirtual 52, 3) := by decide +kernel
theorem dX3_alikeBefore_14 : decode cX3_alikeBefore 14 = .ok (.ifCond .eq 9, 3) := by decide +kernel
theorem dX3_alikeBefore_17 : decode cX3_alikeBefore 17 = .ok (.aload_n 0, 1) := by decide +kernel
theorem dX3_alikeBefore_18 : decode cX3_alikeBefore 18 = .ok (.iload_n 3, 1) := by decide +kernel
theorem dX3_alikeBefore_19 : decode cX3_alikeBefore 19 = .ok (.invokevirtual 56, 3) := by decide +kernel
theorem dX3_alikeBefore_22 : decode cX3_alikeBefore 22 = .ok (.ireturn, 1) := by decide +kernel
theorem dX3_alikeBefore_23 : decode cX3_alikeBefore 23 = .ok (.iinc 3 1, 3) := by decide +kernel
theorem dX3_alikeBefore_26 : decode cX3_alikeBefore 26 = .ok (.goto (-24), 3) := by decide +kernel
theorem dX3_alikeBefore_29 : decode cX3_alikeBefore 29 = .ok (.iconst (-1), 1) := by decide +kernel
theorem dX3_alikeBefore_30 : decode cX3_alikeBefore 30 = .ok (.ireturn, 1) := by decide +kernel
theorem dX3_areAlike_0 : decode cX3_areAlike 0 = .ok (.iconst 0, 1) := by decide +kernel
theorem dX3_areAlike_1 : decode cX3_areAlike 1 = .ok (.istore 4, 2) := by decide +kernel
theorem dX3_areAlike_3 : decode cX3_areAlike 3 = .ok (.iload 4, 2) := by decide +kernel
theorem dX3_areAlike_5 : decode cX3_areAlike 5 = .ok (.bipush 8, 2) := by decide +kernel
theorem dX3_areAlike_7 : decode cX3_areAlike 7 = .ok (.if_icmp .ge 37, 3) := by decide +kernel
theorem dX3_areAlike_10 : decode cX3_areAlike 10 = .ok (.aload_n 1, 1) := by decide +kernel
theorem dX3_areAlike_11 : decode cX3_areAlike 11 = .ok (.iload_n 2, 1) := by decide +kernel
theorem dX3_areAlike_12 : decode cX3_areAlike 12 = .ok (.bipush 8, 2) := by decide +kernel
theorem dX3_areAlike_14 : decode cX3_areAlike 14 = .ok (.imul, 1) := by decide +kernel
theorem dX3_areAlike_15 : decode cX3_areAlike 15 = .ok (.iload 4, 2) := by decide +kernel
theorem dX3_areAlike_17 : decode cX3_areAlike 17 = .ok (.iadd, 1) := by decide +kernel
theorem dX3_areAlike_18 : decode cX3_areAlike 18 = .ok (.invokevirtual 59, 3) := by decide +kernel
theorem dX3_areAlike_21 : decode cX3_areAlike 21 = .ok (.aload_n 1, 1) := by decide +kernel
theorem dX3_areAlike_22 : decode cX3_areAlike 22 = .ok (.iload_n 3, 1) := by decide +kernel
theorem dX3_areAlike_23 : decode cX3_areAlike 23 = .ok (.bipush 8, 2) := by decide +kernel
theorem dX3_areAlike_25 : decode cX3_areAlike 25 = .ok (.imul, 1) := by decide +kernel
theorem dX3_areAlike_26 : decode cX3_areAlike 26 = .ok (.iload 4, 2) := by decide +kernel
theorem dX3_areAlike_28 : decode cX3_areAlike 28 = .ok (.iadd, 1) := by decide +kernel
theorem dX3_areAlike_29 : decode cX3_areAlike 29 = .ok (.invokevirtual 59, 3) := by decide +kernel
theorem dX3_areAlike_32 : decode cX3_areAlike 32 = .ok (.lcmp, 1) := by decide +kernel
theorem dX3_areAlike_33 : decode cX3_areAlike 33 = .ok (.ifCond .eq 5, 3) := by decide +kernel
theorem dX3_areAlike_36 : decode cX3_areAlike 36 = .ok (.iconst 0, 1) := by decide +kernel
theorem dX3_areAlike_37 : decode cX3_areAlike 37 = .ok (.ireturn, 1) := by decide +kernel
theorem dX3_areAlike_38 : decode cX3_areAlike 38 = .ok (.iinc 4 1, 3) := by decide +kernel
theorem dX3_areAlike_41 : decode cX3_areAlike 41 = .ok (.goto (-38), 3) := by decide +kernel
theorem dX3_areAlike_44 : decode cX3_areAlike 44 = .ok (.iconst 1, 1) := by decide +kernel
theorem dX3_areAlike_45 : decode cX3_areAlike 45 = .ok (.ireturn, 1) := by decide +kernel
theorem dX3_takeLeast_0 : decode cX3_takeLeast 0 = .ok (.iconst 0, 1) := by decide +kernel
theorem dX3_takeLeast_1 : decode cX3_takeLeast 1 = .ok (.istore_n 2, 1) := by decide +kernel
theorem dX3_takeLeast_2 : decode cX3_takeLeast 2 = .ok (.iload_n 2, 1) := by decide +kernel
theorem dX3_takeLeast_3 : decode cX3_takeLeast 3 = .ok (.aload_n 0, 1) := by decide +kernel
theorem dX3_takeLeast_4 : decode cX3_takeLeast 4 = .ok (.getfield 19, 3) := by decide +kernel
theorem dX3_takeLeast_7 : decode cX3_takeLeast 7 = .ok (.arraylength, 1) := by decide +kernel
theorem dX3_takeLeast_8 : decode cX3_takeLeast 8 = .ok (.if_icmp .ge 32, 3) := by decide +kernel
theorem dX3_takeLeast_11 : decode cX3_takeLeast 11 = .ok (.iload_n 2, 1) := by decide +kernel
theorem dX3_takeLeast_12 : decode cX3_takeLeast 12 = .ok (.iload_n 1, 1) := by decide +kernel
theorem dX3_takeLeast_13 : decode cX3_takeLeast 13 = .ok (.if_icmp .ge 27, 3) := by decide +kernel
theorem dX3_takeLeast_16 : decode cX3_takeLeast 16 = .ok (.aload_n 0, 1) := by decide +kernel
theorem dX3_takeLeast_17 : decode cX3_takeLeast 17 = .ok (.getfield 19, 3) := by decide +kernel
theorem dX3_takeLeast_20 : decode cX3_takeLeast 20 = .ok (.iload_n 2, 1) := by decide +kernel
theorem dX3_takeLeast_21 : decode cX3_takeLeast 21 = .ok (.baload, 1) := by decide +kernel
theorem dX3_takeLeast_22 : decode cX3_takeLeast 22 = .ok (.ifCond .ne 12, 3) := by decide +kernel
theorem dX3_takeLeast_25 : decode cX3_takeLeast 25 = .ok (.aload_n 0, 1) := by decide +kernel
theorem dX3_takeLeast_26 : decode cX3_takeLeast 26 = .ok (.getfield 19, 3) := by decide +kernel
theorem dX3_takeLeast_29 : decode cX3_takeLeast 29 = .ok (.iload_n 2, 1) := by decide +kernel
theorem dX3_takeLeast_30 : decode cX3_takeLeast 30 = .ok (.iconst 1, 1) := by decide +kernel
theorem dX3_takeLeast_31 : decode cX3_takeLeast 31 = .ok (.bastore, 1) := by decide +kernel
theorem dX3_takeLeast_32 : decode cX3_takeLeast 32 = .ok (.iload_n 2, 1) := by decide +kernel
theorem dX3_takeLeast_33 : decode cX3_takeLeast 33 = .ok (.ireturn, 1) := by decide +kernel
theorem dX3_takeLeast_34 : decode cX3_takeLeast 34 = .ok (.iinc 2 1, 3) := by decide +kernel
theorem dX3_takeLeast_37 : decode cX3_takeLeast 37 = .ok (.goto (-35), 3) := by decide +kernel
theorem dX3_takeLeast_40 : decode cX3_takeLeast 40 = .ok (.iconst (-1), 1) := by decide +kernel
theorem dX3_takeLeast_41 : decode cX3_takeLeast 41 = .ok (.ireturn, 1) := by decide +kernel
theorem dX4_init_0 : decode cX4_init 0 = .ok (.aload_n 0, 1) := by decide +kernel
theorem dX4_init_1 : decode cX4_init 1 = .ok (.invokespecial 3, 3) := by decide +kernel
theorem dX4_init_4 : decode cX4_init 4 = .ok (.aload_n 0, 1) := by decide +kernel
theorem dX4_init_5 : decode cX4_init 5 = .ok (.new 9, 3) := by decide +kernel
theorem dX4_init_8 : decode cX4_init 8 = .ok (.dup, 1) := by decide +kernel
theorem dX4_init_9 : decode cX4_init 9 = .ok (.invokespecial 11, 3) := by decide +kernel
theorem dX4_init_12 : decode cX4_init 12 = .ok (.putfield 12, 3) := by decide +kernel
theorem dX4_init_15 : decode cX4_init 15 = .ok (.aload_n 0, 1) := by decide +kernel
theorem dX4_init_16 : decode cX4_init 16 = .ok (.new 16, 3) := by decide +kernel
theorem dX4_init_19 : decode cX4_init 19 = .ok (.dup, 1) := by decide +kernel
theorem dX4_init_20 : decode cX4_init 20 = .ok (.invokespecial 18, 3) := by decide +kernel
theorem dX4_init_23 : decode cX4_init 23 = .ok (.putfield 19, 3) := by decide +kernel
theorem dX4_init_26 : decode cX4_init 26 = .ok (.aload_n 0, 1) := by decide +kernel
theorem dX4_init_27 : decode cX4_init 27 = .ok (.new 16, 3) := by decide +kernel
theorem dX4_init_30 : decode cX4_init 30 = .ok (.dup, 1) := by decide +kernel
theorem dX4_init_31 : decode cX4_init 31 = .ok (.invokespecial 18, 3) := by decide +kernel
theorem dX4_init_34 : decode cX4_init 34 = .ok (.putfield 23, 3) := by decide +kernel
theorem dX4_init_37 : decode cX4_init 37 = .ok (.aload_n 0, 1) := by decide +kernel
theorem dX4_init_38 : decode cX4_init 38 = .ok (.new 26, 3) := by decide +kernel
theorem dX4_init_41 : decode cX4_init 41 = .ok (.dup, 1) := by decide +kernel
theorem dX4_init_42 : decode cX4_init 42 = .ok (.invokespecial 28, 3) := by decide +kernel
theorem dX4_init_45 : decode cX4_init 45 = .ok (.putfield 29, 3) := by decide +kernel
theorem dX4_init_48 : decode cX4_init 48 = .ok (.aload_n 0, 1) := by decide +kernel
theorem dX4_init_49 : decode cX4_init 49 = .ok (.bipush 64, 2) := by decide +kernel
theorem dX4_init_51 : decode cX4_init 51 = .ok (.invokevirtual 33, 3) := by decide +kernel
theorem dX4_init_54 : decode cX4_init 54 = .ok (.return_, 1) := by decide +kernel
theorem dX4_begin_0 : decode cX4_begin 0 = .ok (.iload_n 1, 1) := by decide +kernel
theorem dX4_begin_1 : decode cX4_begin 1 = .ok (.ifCond .ge 13, 3) := by decide +kernel
theorem dX4_begin_4 : decode cX4_begin 4 = .ok (.new 37, 3) := by decide +kernel
theorem dX4_begin_7 : decode cX4_begin 7 = .ok (.dup, 1) := by decide +kernel
theorem dX4_begin_8 : decode cX4_begin 8 = .ok (.ldc 39, 2) := by decide +kernel
theorem dX4_begin_10 : decode cX4_begin 10 = .ok (.invokespecial 41, 3) := by decide +kernel
theorem dX4_begin_13 : decode cX4_begin 13 = .ok (.athrow, 1) := by decide +kernel
theorem dX4_begin_14 : decode cX4_begin 14 = .ok (.iload_n 1, 1) := by decide +kernel
theorem dX4_begin_15 : decode cX4_begin 15 = .ok (.ifCond .eq 9, 3) := by decide +kernel
theorem dX4_begin_18 : decode cX4_begin 18 = .ok (.iload_n 1, 1) := by decide +kernel
theorem dX4_begin_19 : decode cX4_begin 19 = .ok (.ldc 44, 2) := by decide +kernel
theorem dX4_begin_21 : decode cX4_begin 21 = .ok (.if_icmp .le 13, 3) := by decide +kernel
theorem dX4_begin_24 : decode cX4_begin 24 = .ok (.new 45, 3) := by decide +kernel
theorem dX4_begin_27 : decode cX4_begin 27 = .ok (.dup, 1) := by decide +kernel
theorem dX4_begin_28 : decode cX4_begin 28 = .ok (.ldc 47, 2) := by decide +kernel
theorem dX4_begin_30 : decode cX4_begin 30 = .ok (.invokespecial 49, 3) := by decide +kernel
theorem dX4_begin_33 : decode cX4_begin 33 = .ok (.athrow, 1) := by decide +kernel
theorem dX4_begin_34 : decode cX4_begin 34 = .ok (.aload_n 0, 1) := by decide +kernel
theorem dX4_begin_35 : decode cX4_begin 35 = .ok (.iload_n 1, 1) := by decide +kernel
theorem dX4_begin_36 : decode cX4_begin 36 = .ok (.invokevirtual 33, 3) := by decide +kernel
theorem dX4_begin_39 : decode cX4_begin 39 = .ok (.return_, 1) := by decide +kernel
theorem dX4_edge_0 : decode cX4_edge 0 = .ok (.aload_n 0, 1) := by decide +kernel
theorem dX4_edge_1 : decode cX4_edge 1 = .ok (.invokevirtual 50, 3) := by decide +kernel
theorem dX4_edge_4 : decode cX4_edge 4 = .ok (.aload_n 0, 1) := by decide +kernel
theorem dX4_edge_5 : decode cX4_edge 5 = .ok (.iload_n 1, 1) := by decide +kernel
theorem dX4_edge_6 : decode cX4_edge 6 = .ok (.invokevirtual 53, 3) := by decide +kernel
theorem dX4_edge_9 : decode cX4_edge 9 = .ok (.aload_n 0, 1) := by decide +kernel
theorem dX4_edge_10 : decode cX4_edge 10 = .ok (.iload_n 2, 1) := by decide +kernel
theorem dX4_edge_11 : decode cX4_edge 11 = .ok (.invokevirtual 53, 3) := by decide +kernel
theorem dX4_edge_14 : decode cX4_edge 14 = .ok (.aload_n 0, 1) := by decide +kernel
theorem dX4_edge_15 : decode cX4_edge 15 = .ok (.getfield 19, 3) := by decide +kernel
theorem dX4_edge_18 : decode cX4_edge 18 = .ok (.iconst (-1), 1) := by decide +kernel
theorem dX4_edge_19 : decode cX4_edge 19 = .ok (.iload_n 1, 1) := by decide +kernel
theorem dX4_edge_20 : decode cX4_edge 20 = .ok (.iload_n 2, 1) := by decide +kernel
theorem dX4_edge_21 : decode cX4_edge 21 = .ok (.invokevirtual 56, 3) := by decide +kernel
theorem dX4_edge_24 : decode cX4_edge 24 = .ok (.iload_n 3, 1) := by decide +kernel
theorem dX4_edge_25 : decode cX4_edge 25 = .ok (.if_icmp .ne 5, 3) := by decide +kernel
theorem dX4_edge_28 : decode cX4_edge 28 = .ok (.iconst 0, 1) := by decide +kernel
theorem dX4_edge_29 : decode cX4_edge 29 = .ok (.ireturn, 1) := by decide +kernel
theorem dX4_edge_30 : decode cX4_edge 30 = .ok (.aload_n 0, 1) := by decide +kernel
theorem dX4_edge_31 : decode cX4_edge 31 = .ok (.bipush 15, 2) := by decide +kernel
theorem dX4_edge_33 : decode cX4_edge 33 = .ok (.invokevirtual 60, 3) := by decide +kernel
theorem dX4_edge_36 : decode cX4_edge 36 = .ok (.ifCond .ne 6, 3) := by decide +kernel
theorem dX4_edge_39 : decode cX4_edge 39 = .ok (.bipush (-3), 2) := by decide +kernel
theorem dX4_edge_41 : decode cX4_edge 41 = .ok (.ireturn, 1) := by decide +kernel
theorem dX4_edge_42 : decode cX4_edge 42 = .ok (.aload_n 0, 1) := by decide +kernel
theorem dX4_edge_43 : decode cX4_edge 43 = .ok (.iconst 2, 1) := by decide +kernel
theorem dX4_edge_44 : decode cX4_edge 44 = .ok (.aload_n 0, 1) := by decide +kernel
theorem dX4_edge_45 : decode cX4_edge 45 = .ok (.getfield 19, 3) := by decide +kernel
theorem dX4_edge_48 : decode cX4_edge 48 = .ok (.getfield 64, 3) := by decide +kernel
theorem dX4_edge_51 : decode cX4_edge 51 = .ok (.invokevirtual 68, 3) := by decide +kernel
theorem dX4_edge_54 : decode cX4_edge 54 = .ok (.aload_n 0, 1) := by decide +kernel
theorem dX4_edge_55 : decode cX4_edge 55 = .ok (.getfield 12, 3) := by decide +kernel
theorem dX4_edge_58 : decode cX4_edge 58 = .ok (.iload_n 1, 1) := by decide +kernel
theorem dX4_edge_59 : decode cX4_edge 59 = .ok (.i2l, 1) := by decide +kernel
theorem dX4_edge_60 : decode cX4_edge 60 = .ok (.iconst 1, 1) := by decide +kernel
theorem dX4_edge_61 : decode cX4_edge 61 = .ok (.invokevirtual 72, 3) := by decide +kernel
theorem dX4_edge_64 : decode cX4_edge 64 = .ok (.aload_n 0, 1) := by decide +kernel
theorem dX4_edge_65 : decode cX4_edge 65 = .ok (.getfield 12, 3) := by decide +kernel
theorem dX4_edge_68 : decode cX4_edge 68 = .ok (.iload_n 2, 1) := by decide +kernel
theorem dX4_edge_69 : decode cX4_edge 69 = .ok (.i2l, 1) := by decide +kernel
theorem dX4_edge_70 : decode cX4_edge 70 = .ok (.iconst 1, 1) := by decide +kernel
theorem dX4_edge_71 : decode cX4_edge 71 = .ok (.invokevirtual 72, 3) := by decide +kernel
theorem dX4_edge_74 : decode cX4_edge 74 = .ok (.aload_n 0, 1) := by decide +kernel
theorem dX4_edge_75 : decode cX4_edge 75 = .ok (.getfield 12, 3) := by decide +kernel
theorem dX4_edge_78 : decode cX4_edge 78 = .ok (.iload_n 3, 1) := by decide +kernel
theorem dX4_edge_79 : decode cX4_edge 79 = .ok (.ifCond .eq 7, 3) := by decide +kernel
theorem dX4_edge_82 : decode cX4_edge 82 = .ok (.lconst 1, 1) := by decide +kernel
theorem dX4_edge_83 : decode cX4_edge 83 = .ok (.goto 4, 3) := by decide +kernel
theorem dX4_edge_86 : decode cX4_edge 86 = .ok (.lconst 0, 1) := by decide +kernel
theorem dX4_edge_87 : decode cX4_edge 87 = .ok (.iconst 1, 1) := by decide +kernel
theorem dX4_edge_88 : decode cX4_edge 88 = .ok (.invokevirtual 72, 3) := by decide +kernel
theorem dX4_edge_91 : decode cX4_edge 91 = .ok (.aload_n 0, 1) := by decide +kernel
theorem dX4_edge_92 : decode cX4_edge 92 = .ok (.invokevirtual 76, 3) := by decide +kernel
theorem dX4_edge_95 : decode cX4_edge 95 = .ok (.iconst 1, 1) := by decide +kernel
theorem dX4_edge_96 : decode cX4_edge 96 = .ok (.ireturn, 1) := by decide +kernel
theorem dX4_version_0 : decode cX4_version 0 = .ok (.aload_n 0, 1) := by decide +kernel
theorem dX4_version_1 : decode cX4_version 1 = .ok (.invokevirtual 50, 3) := by decide +kernel
theorem dX4_version_4 : decode cX4_version 4 = .ok (.aload_n 0, 1) := by decide +kernel
theorem dX4_version_5 : decode cX4_version 5 = .ok (.getfield 19, 3) := by decide +kernel
theorem dX4_version_8 : decode cX4_version 8 = .ok (.getfield 79, 3) := by decide +kernel
theorem dX4_version_11 : decode cX4_version 11 = .ok (.bipush 100, 2) := by decide +kernel
theorem dX4_version_13 : decode cX4_version 13 = .ok (.if_icmp .ge 31, 3) := by decide +kernel
theorem dX4_version_16 : decode cX4_version 16 = .ok (.aload_n 0, 1) := by decide +kernel
theorem dX4_version_17 : decode cX4_version 17 = .ok (.getfield 29, 3) := by decide +kernel
theorem dX4_version_20 : decode cX4_version 20 = .ok (.aload_n 0, 1) := by decide +kernel
theorem dX4_version_21 : decode cX4_version 21 = .ok (.getfield 19, 3) := by decide +kernel
theorem dX4_version_24 : decode cX4_version 24 = .ok (.invokevirtual 82, 3) := by decide +kernel
theorem dX4_version_27 : decode cX4_version 27 = .ok (.ifCond .eq 17, 3) := by decide +kernel
theorem dX4_version_30 : decode cX4_version 30 = .ok (.aload_n 0, 1) := by decide +kernel
theorem dX4_version_31 : decode cX4_version 31 = .ok (.aload_n 0, 1) := by decide +kernel
theorem dX4_version_32 : decode cX4_version 32 = .ok (.getfield 29, 3) := by decide +kernel
theorem dX4_version_35 : decode cX4_version 35 = .ok (.invokevirtual 86, 3) := by decide +kernel
theorem dX4_version_38 : decode cX4_version 38 = .ok (.invokevirtual 60, 3) := by decide +kernel
theorem dX4_version_41 : decode cX4_version 41 = .ok (.ifCond .ne 6, 3) := by decide +kernel
theorem dX4_version_44 : decode cX4_version 44 = .ok (.bipush (-3), 2) := by decide +kernel
theorem dX4_version_46 : decode cX4_version 46 = .ok (.ireturn, 1) := by decide +kernel
theorem dX4_version_47 : decode cX4_version 47 = .ok (.iconst 0, 1) := by decide +kernel
theorem dX4_version_48 : decode cX4_version 48 = .ok (.istore_n 1, 1) := by decide +kernel
theorem dX4_version_49 : decode cX4_version 49 = .ok (.iload_n 1, 1) := by decide +kernel
theorem dX4_version_50 : decode cX4_version 50 = .ok (.bipush 8, 2) := by decide +kernel
theorem dX4_version_52 : decode cX4_version 52 = .ok (.if_icmp .ge 33, 3) := by decide +kernel
theorem dX4_version_55 : decode cX4_version 55 = .ok (.aload_n 0, 1) := by decide +kernel
theorem dX4_version_56 : decode cX4_version 56 = .ok (.getfield 29, 3) := by decide +kernel
theorem dX4_version_59 : decode cX4_version 59 = .ok (.iload_n 1, 1) := by decide +kernel
theorem dX4_version_60 : decode cX4_version 60 = .ok (.invokevirtual 90, 3) := by decide +kernel
theorem dX4_version_63 : decode cX4_version 63 = .ok (.ifCond .eq 16, 3) := by decide +kernel
theorem dX4_version_66 : decode cX4_version 66 = .ok (.aload_n 0, 1) := by decide +kernel
theorem dX4_version_67 : decode cX4_version 67 = .ok (.iload_n 1, 1) := by decide +kernel
theorem dX4_version_68 : decode cX4_version 68 = .ok (.aload_n 0, 1) := by decide +kernel
theorem dX4_version_69 : decode cX4_version 69 = .ok (.getfield 29, 3) := by decide +kernel
theorem dX4_version_72 : decode cX4_version 72 = .ok (.iload_n 1, 1) := by decide +kernel
theorem dX4_version_73 : decode cX4_version 73 = .ok (.invokevirtual 93, 3) := by decide +kernel
theorem dX4_version_76 : decode cX4_version 76 = .ok (.invokevirtual 97, 3) := by decide +kernel
theorem dX4_version_79 : decode cX4_version 79 = .ok (.iinc 1 1, 3) := by decide +kernel
theorem dX4_version_82 : decode cX4_version 82 = .ok (.goto (-33), 3) := by decide +kernel
theorem dX4_version_85 : decode cX4_version 85 = .ok (.aload_n 0, 1) := by decide +kernel
theorem dX4_version_86 : decode cX4_version 86 = .ok (.getfield 19, 3) := by decide +kernel
theorem dX4_version_89 : decode cX4_version 89 = .ok (.getfield 79, 3) := by decide +kernel
theorem dX4_version_92 : decode cX4_version 92 = .ok (.istore_n 1, 1) := by decide +kernel
theorem dX4_version_93 : decode cX4_version 93 = .ok (.aload_n 0, 1) := by decide +kernel
theorem dX4_version_94 : decode cX4_version 94 = .ok (.iconst 3, 1) := by decide +kernel
theorem dX4_version_95 : decode cX4_version 95 = .ok (.iload_n 1, 1) := by decide +kernel
theorem dX4_version_96 : decode cX4_version 96 = .ok (.invokevirtual 68, 3) := by decide +kernel
theorem dX4_version_99 : decode cX4_version 99 = .ok (.iconst 0, 1) := by decide +kernel
theorem dX4_version_100 : decode cX4_version 100 = .ok (.istore_n 2, 1) := by decide +kernel
theorem dX4_version_101 : decode cX4_version 101 = .ok (.iload_n 2, 1) := by decide +kernel
theorem dX4_version_102 : decode cX4_version 102 = .ok (.bipush 8, 2) := by decide +kernel
theorem dX4_version_104 : decode cX4_version 104 = .ok (.if_icmp .ge 26, 3) := by decide +kernel
theorem dX4_version_107 : decode cX4_version 107 = .ok (.aload_n 0, 1) := by decide +kernel
theorem dX4_version_108 : decode cX4_version 108 = .ok (.getfield 12, 3) := by decide +kernel
theorem dX4_version_111 : decode cX4_version 111 = .ok (.aload_n 0, 1) := by decide +kernel
theorem dX4_version_112 : decode cX4_version 112 = .ok (.getfield 29, 3) := by decide +kernel
theorem dX4_version_115 : decode cX4_version 115 = .ok (.iload_n 2, 1) := by decide +kernel
theorem dX4_version_116 : decode cX4_version 116 = .ok (.invokevirtual 93, 3) := by decide +kernel
theorem dX4_version_119 : decode cX4_version 119 = .ok (.i2l, 1) := by decide +kernel
theorem dX4_version_120 : decode cX4_version 120 = .ok (.iconst 2, 1) := by decide +kernel
theorem dX4_version_121 : decode cX4_version 121 = .ok (.invokevirtual 72, 3) := by decide +kernel
theorem dX4_version_124 : decode cX4_version 124 = .ok (.iinc 2 1, 3) := by decide +kernel
theorem dX4_version_127 : decode cX4_version 127 = .ok (.goto (-26), 3) := by decide +kernel
theorem dX4_version_130 : decode cX4_version 130 = .ok (.aload_n 0, 1) := by decide +kernel
theorem dX4_version_131 : decode cX4_version 131 = .ok (.invokevirtual 76, 3) := by decide +kernel
theorem dX4_version_134 : decode cX4_version 134 = .ok (.iload_n 1, 1) := by decide +kernel
theorem dX4_version_135 : decode cX4_version 135 = .ok (.ireturn, 1) := by decide +kernel
theorem dX4_answer_0 : decode cX4_answer 0 = .ok (.aload_n 0, 1) := by decide +kernel
theorem dX4_answer_1 : decode cX4_answer 1 = .ok (.invokevirtual 50, 3) := by decide +kernel
theorem dX4_answer_4 : decode cX4_answer 4 = .ok (.aload_n 0, 1) := by decide +kernel
theorem dX4_answer_5 : decode cX4_answer 5 = .ok (.iload_n 1, 1) := by decide +kernel
theorem dX4_answer_6 : decode cX4_answer 6 = .ok (.invokevirtual 100, 3) := by decide +kernel
theorem dX4_answer_9 : decode cX4_answer 9 = .ok (.aload_n 0, 1) := by decide +kernel
theorem dX4_answer_10 : decode cX4_answer 10 = .ok (.iload_n 2, 1) := by decide +kernel
theorem dX4_answer_11 : decode cX4_answer 11 = .ok (.invokevirtual 53, 3) := by decide +kernel
theorem dX4_answer_14 : decode cX4_answer 14 = .ok (.aload_n 0, 1) := by decide +kernel
theorem dX4_answer_15 : decode cX4_answer 15 = .ok (.getfield 19, 3) := by decide +kernel
theorem dX4_answer_18 : decode cX4_answer 18 = .ok (.getfield 103, 3) := by decide +kernel
theorem dX4_answer_21 : decode cX4_answer 21 = .ok (.bipush 100, 2) := by decide +kernel
theorem dX4_answer_23 : decode cX4_answer 23 = .ok (.if_icmp .ge 12, 3) := by decide +kernel
theorem dX4_answer_26 : decode cX4_answer 26 = .ok (.aload_n 0, 1) := by decide +kernel
theorem dX4_answer_27 : decode cX4_answer 27 = .ok (.bipush 22, 2) := by decide +kernel
theorem dX4_answer_29 : decode cX4_answer 29 = .ok (.invokevirtual 60, 3) := by decide +kernel
theorem dX4_answer_32 : decode cX4_answer 32 = .ok (.ifCond .ne 6, 3) := by decide +kernel
theorem dX4_answer_35 : decode cX4_answer 35 = .ok (.bipush (-3), 2) := by decide +kernel
theorem dX4_answer_37 : decode cX4_answer 37 = .ok (.ireturn, 1) := by decide +kernel
theorem dX4_answer_38 : decode cX4_answer 38 = .ok (.aload_n 0, 1) := by decide +kernel
theorem dX4_answer_39 : decode cX4_answer 39 = .ok (.getfield 19, 3) := by decide +kernel
theorem dX4_answer_42 : decode cX4_answer 42 = .ok (.getfield 103, 3) := by decide +kernel
theorem dX4_answer_45 : decode cX4_answer 45 = .ok (.istore_n 3, 1) := by decide +kernel
theorem dX4_answer_46 : decode cX4_answer 46 = .ok (.aload_n 0, 1) := by decide +kernel
theorem dX4_answer_47 : decode cX4_answer 47 = .ok (.iconst 4, 1) := by decide +kernel
theorem dX4_answer_48 : decode cX4_answer 48 = .ok (.iload_n 3, 1) := by decide +kernel
theorem dX4_answer_49 : decode cX4_answer 49 = .ok (.invokevirtual 68, 3) := by decide +kernel
theorem dX4_answer_52 : decode cX4_answer 52 = .ok (.aload_n 0, 1) := by decide +kernel
theorem dX4_answer_53 : decode cX4_answer 53 = .ok (.getfield 12, 3) := by decide +kernel
theorem dX4_answer_56 : decode cX4_answer 56 = .ok (.iload_n 1, 1) := by decide +kernel
theorem dX4_answer_57 : decode cX4_answer 57 = .ok (.i2l, 1) := by decide +kernel
theorem dX4_answer_58 : decode cX4_answer 58 = .ok (.iconst 1, 1) := by decide +kernel
theorem dX4_answer_59 : decode cX4_answer 59 = .ok (.invokevirtual 72, 3) := by decide +kernel
theorem dX4_answer_62 : decode cX4_answer 62 = .ok (.aload_n 0, 1) := by decide +kernel
theorem dX4_answer_63 : decode cX4_answer 63 = .ok (.getfield 12, 3) := by decide +kernel
theorem dX4_answer_66 : decode cX4_answer 66 = .ok (.iload_n 2, 1) := by decide +kernel
theorem dX4_answer_67 : decode cX4_answer 67 = .ok (.i2l, 1) := by decide +kernel
theorem dX4_answer_68 : decode cX4_answer 68 = .ok (.iconst 1, 1) := by decide +kernel
theorem dX4_answer_69 : decode cX4_answer 69 = .ok (.invokevirtual 72, 3) := by decide +kernel
theorem dX4_answer_72 : decode cX4_answer 72 = .ok (.aload_n 0, 1) := by decide +kernel
theorem dX4_answer_73 : decode cX4_answer 73 = .ok (.getfield 12, 3) := by decide +kernel
theorem dX4_answer_76 : decode cX4_answer 76 = .ok (.aload_n 0, 1) := by decide +kernel
theorem dX4_answer_77 : decode cX4_answer 77 = .ok (.iload_n 1, 1) := by decide +kernel
theorem dX4_answer_78 : decode cX4_answer 78 = .ok (.iload_n 2, 1) := by decide +kernel
theorem dX4_answer_79 : decode cX4_answer 79 = .ok (.invokevirtual 106, 3) := by decide +kernel
theorem dX4_answer_82 : decode cX4_answer 82 = .ok (.bipush 8, 2) := by decide +kernel
theorem dX4_answer_84 : decode cX4_answer 84 = .ok (.invokevirtual 72, 3) := by decide +kernel
theorem dX4_answer_87 : decode cX4_answer 87 = .ok (.aload_n 0, 1) := by decide +kernel
theorem dX4_answer_88 : decode cX4_answer 88 = .ok (.invokevirtual 76, 3) := by decide +kernel
theorem dX4_answer_91 : decode cX4_answer 91 = .ok (.iload_n 3, 1) := by decide +kernel
theorem dX4_answer_92 : decode cX4_answer 92 = .ok (.ireturn, 1) := by decide +kernel
theorem dX4_drop_0 : decode cX4_drop 0 = .ok (.aload_n 0, 1) := by decide +kernel
theorem dX4_drop_1 : decode cX4_drop 1 = .ok (.invokevirtual 50, 3) := by decide +kernel
theorem dX4_drop_4 : decode cX4_drop 4 = .ok (.aload_n 0, 1) := by decide +kernel
theorem dX4_drop_5 : decode cX4_drop 5 = .ok (.iload_n 1, 1) := by decide +kernel
theorem dX4_drop_6 : decode cX4_drop 6 = .ok (.invokevirtual 100, 3) := by decide +kernel
theorem dX4_drop_9 : decode cX4_drop 9 = .ok (.aload_n 0, 1) := by decide +kernel
theorem dX4_drop_10 : decode cX4_drop 10 = .ok (.bipush 12, 2) := by decide +kernel
theorem dX4_drop_12 : decode cX4_drop 12 = .ok (.invokevirtual 60, 3) := by decide +kernel
theorem dX4_drop_15 : decode cX4_drop 15 = .ok (.ifCond .ne 6, 3) := by decide +kernel
theorem dX4_drop_18 : decode cX4_drop 18 = .ok (.bipush (-3), 2) := by decide +kernel
theorem dX4_drop_20 : decode cX4_drop 20 = .ok (.ireturn, 1) := by decide +kernel
theorem dX4_drop_21 : decode cX4_drop 21 = .ok (.aload_n 0, 1) := by decide +kernel
theorem dX4_drop_22 : decode cX4_drop 22 = .ok (.getfield 19, 3) := by decide +kernel
theorem dX4_drop_25 : decode cX4_drop 25 = .ok (.getfield 110, 3) := by decide +kernel
theorem dX4_drop_28 : decode cX4_drop 28 = .ok (.invokevirtual 114, 3) := by decide +kernel
theorem dX4_drop_31 : decode cX4_drop 31 = .ok (.istore_n 2, 1) := by decide +kernel
theorem dX4_drop_32 : decode cX4_drop 32 = .ok (.aload_n 0, 1) := by decide +kernel
theorem dX4_drop_33 : decode cX4_drop 33 = .ok (.iconst 5, 1) := by decide +kernel
theorem dX4_drop_34 : decode cX4_drop 34 = .ok (.iload_n 1, 1) := by decide +kernel
theorem dX4_drop_35 : decode cX4_drop 35 = .ok (.invokevirtual 68, 3) := by decide +kernel
theorem dX4_drop_38 : decode cX4_drop 38 = .ok (.aload_n 0, 1) := by decide +kernel
theorem dX4_drop_39 : decode cX4_drop 39 = .ok (.invokevirtual 76, 3) := by decide +kernel
theorem dX4_drop_42 : decode cX4_drop 42 = .ok (.iload_n 2, 1) := by decide +kernel
theorem dX4_drop_43 : decode cX4_drop 43 = .ok (.aload_n 0, 1) := by decide +kernel
theorem dX4_drop_44 : decode cX4_drop 44 = .ok (.getfield 19, 3) := by decide +kernel
theorem dX4_drop_47 : decode cX4_drop 47 = .ok (.getfield 110, 3) := by decide +kernel
theorem dX4_drop_50 : decode cX4_drop 50 = .ok (.invokevirtual 114, 3) := by decide +kernel
theorem dX4_drop_53 : decode cX4_drop 53 = .ok (.isub, 1) := by decide +kernel
theorem dX4_drop_54 : decode cX4_drop 54 = .ok (.ireturn, 1) := by decide +kernel
theorem dX4_keep_0 : decode cX4_keep 0 = .ok (.aload_n 0, 1) := by decide +kernel
theorem dX4_keep_1 : decode cX4_keep 1 = .ok (.invokevirtual 50, 3) := by decide +kernel
theorem dX4_keep_4 : decode cX4_keep 4 = .ok (.aload_n 0, 1) := by decide +kernel
theorem dX4_keep_5 : decode cX4_keep 5 = .ok (.dup, 1) := by decide +kernel
theorem dX4_keep_6 : decode cX4_keep 6 = .ok (.getfield 119, 3) := by decide +kernel
theorem dX4_keep_9 : decode cX4_keep 9 = .ok (.iconst 1, 1) := by decide +kernel
theorem dX4_keep_10 : decode cX4_keep 10 = .ok (.iadd, 1) := by decide +kernel
theorem dX4_keep_11 : decode cX4_keep 11 = .ok (.putfield 119, 3) := by decide +kernel
theorem dX4_keep_14 : decode cX4_keep 14 = .ok (.aload_n 0, 1) := by decide +kernel
theorem dX4_keep_15 : decode cX4_keep 15 = .ok (.invokevirtual 122, 3) := by decide +kernel
theorem dX4_keep_18 : decode cX4_keep 18 = .ok (.aload_n 0, 1) := by decide +kernel
theorem dX4_keep_19 : decode cX4_keep 19 = .ok (.getfield 119, 3) := by decide +kernel
theorem dX4_keep_22 : decode cX4_keep 22 = .ok (.ireturn, 1) := by decide +kernel
theorem dX4_crash_0 : decode cX4_crash 0 = .ok (.aload_n 0, 1) := by decide +kernel
theorem dX4_crash_1 : decode cX4_crash 1 = .ok (.getfield 125, 3) := by decide +kernel
theorem dX4_crash_4 : decode cX4_crash 4 = .ok (.ifCond .ne 5, 3) := by decide +kernel
theorem dX4_crash_7 : decode cX4_crash 7 = .ok (.iconst 0, 1) := by decide +kernel
theorem dX4_crash_8 : decode cX4_crash 8 = .ok (.ireturn, 1) := by decide +kernel
theorem dX4_crash_9 : decode cX4_crash 9 = .ok (.aload_n 0, 1) := by decide +kernel
theorem dX4_crash_10 : decode cX4_crash 10 = .ok (.iconst 0, 1) := by decide +kernel
theorem dX4_crash_11 : decode cX4_crash 11 = .ok (.putfield 125, 3) := by decide +kernel
theorem dX4_crash_14 : decode cX4_crash 14 = .ok (.aload_n 0, 1) := by decide +kernel
theorem dX4_crash_15 : decode cX4_crash 15 = .ok (.getfield 12, 3) := by decide +kernel
theorem dX4_crash_18 : decode cX4_crash 18 = .ok (.iload_n 1, 1) := by decide +kernel
theorem dX4_crash_19 : decode cX4_crash 19 = .ok (.invokevirtual 129, 3) := by decide +kernel
theorem dX4_crash_22 : decode cX4_crash 22 = .ok (.ireturn, 1) := by decide +kernel
theorem dX4_open_0 : decode cX4_open 0 = .ok (.aload_n 0, 1) := by decide +kernel
theorem dX4_open_1 : decode cX4_open 1 = .ok (.iconst 0, 1) := by decide +kernel
theorem dX4_open_2 : decode cX4_open 2 = .ok (.putfield 125, 3) := by decide +kernel
theorem dX4_open_5 : decode cX4_open 5 = .ok (.aload_n 0, 1) := by decide +kernel
theorem dX4_open_6 : decode cX4_open 6 = .ok (.invokevirtual 132, 3) := by decide +kernel
theorem dX4_open_9 : decode cX4_open 9 = .ok (.istore_n 1, 1) := by decide +kernel
theorem dX4_open_10 : decode cX4_open 10 = .ok (.iload_n 1, 1) := by decide +kernel
theorem dX4_open_11 : decode cX4_open 11 = .ok (.iconst (-1), 1) := by decide +kernel
theorem dX4_open_12 : decode cX4_open 12 = .ok (.if_icmp .ne 5, 3) := by decide +kernel
theorem dX4_open_15 : decode cX4_open 15 = .ok (.iconst (-1), 1) := by decide +kernel
theorem dX4_open_16 : decode cX4_open 16 = .ok (.ireturn, 1) := by decide +kernel
theorem dX4_open_17 : decode cX4_open 17 = .ok (.aload_n 0, 1) := by decide +kernel
theorem dX4_open_18 : decode cX4_open 18 = .ok (.getfield 19, 3) := by decide +kernel
theorem dX4_open_21 : decode cX4_open 21 = .ok (.aload_n 0, 1) := by decide +kernel
theorem dX4_open_22 : decode cX4_open 22 = .ok (.getfield 12, 3) := by decide +kernel
theorem dX4_open_25 : decode cX4_open 25 = .ok (.aload_n 0, 1) := by decide +kernel
theorem dX4_open_26 : decode cX4_open 26 = .ok (.getfield 12, 3) := by decide +kernel
theorem dX4_open_29 : decode cX4_open 29 = .ok (.iload_n 1, 1) := by decide +kernel
theorem dX4_open_30 : decode cX4_open 30 = .ok (.iconst 4, 1) := by decide +kernel
theorem dX4_open_31 : decode cX4_open 31 = .ok (.iadd, 1) := by decide +kernel
theorem dX4_open_32 : decode cX4_open 32 = .ok (.iconst 4, 1) := by decide +kernel
theorem dX4_open_33 : decode cX4_open 33 = .ok (.invokevirtual 135, 3) := by decide +kernel
theorem dX4_open_36 : decode cX4_open 36 = .ok (.l2i, 1) := by decide +kernel
theorem dX4_open_37 : decode cX4_open 37 = .ok (.aload_n 0, 1) := by decide +kernel
theorem dX4_open_38 : decode cX4_open 38 = .ok (.getfield 19, 3) := by decide +kernel
theorem dX4_open_41 : decode cX4_open 41 = .ok (.getfield 138, 3) := by decide +kernel
theorem dX4_open_44 : decode cX4_open 44 = .ok (.invokevirtual 141, 3) := by decide +kernel
theorem dX4_open_47 : decode cX4_open 47 = .ok (.istore_n 2, 1) := by decide +kernel
theorem dX4_open_48 : decode cX4_open 48 = .ok (.iload_n 2, 1) := by decide +kernel
theorem dX4_open_49 : decode cX4_open 49 = .ok (.iconst (-1), 1) := by decide +kernel
theorem dX4_open_50 : decode cX4_open 50 = .ok (.if_icmp .eq 8, 3) := by decide +kernel
theorem dX4_open_53 : decode cX4_open 53 = .ok (.bipush (-2), 2) := by decide +kernel
theorem dX4_open_55 : decode cX4_open 55 = .ok (.iload_n 2, 1) := by decide +kernel
theorem dX4_open_56 : decode cX4_open 56 = .ok (.isub, 1) := by decide +kernel
theorem dX4_open_57 : decode cX4_open 57 = .ok (.ireturn, 1) := by decide +kernel
theorem dX4_open_58 : decode cX4_open 58 = .ok (.aload_n 0, 1) := by decide +kernel
theorem dX4_open_59 : decode cX4_open 59 = .ok (.aload_n 0, 1) := by decide +kernel
theorem dX4_open_60 : decode cX4_open 60 = .ok (.getfield 12, 3) := by decide +kernel
theorem dX4_open_63 : decode cX4_open 63 = .ok (.iload_n 1, 1) := by decide +kernel
theorem dX4_open_64 : decode cX4_open 64 = .ok (.iconst 4, 1) := by decide +kernel
theorem dX4_open_65 : decode cX4_open 65 = .ok (.invokevirtual 135, 3) := by decide +kernel
theorem dX4_open_68 : decode cX4_open 68 = .ok (.l2i, 1) := by decide +kernel
theorem dX4_open_69 : decode cX4_open 69 = .ok (.putfield 119, 3) := by decide +kernel
theorem dX4_open_72 : decode cX4_open 72 = .ok (.aload_n 0, 1) := by decide +kernel
theorem dX4_open_73 : decode cX4_open 73 = .ok (.getfield 12, 3) := by decide +kernel
theorem dX4_open_76 : decode cX4_open 76 = .ok (.invokevirtual 145, 3) := by decide +kernel
theorem dX4_open_79 : decode cX4_open 79 = .ok (.aload_n 0, 1) := by decide +kernel
theorem dX4_open_80 : decode cX4_open 80 = .ok (.iconst 1, 1) := by decide +kernel
theorem dX4_open_81 : decode cX4_open 81 = .ok (.putfield 125, 3) := by decide +kernel
theorem dX4_open_84 : decode cX4_open 84 = .ok (.aload_n 0, 1) := by decide +kernel
theorem dX4_open_85 : decode cX4_open 85 = .ok (.getfield 19, 3) := by decide +kernel
theorem dX4_open_88 : decode cX4_open 88 = .ok (.invokevirtual 148, 3) := by decide +kernel
theorem dX4_open_91 : decode cX4_open 91 = .ok (.ireturn, 1) := by decide +kernel
theorem dX4_poke_0 : decode cX4_poke 0 = .ok (.aload_n 0, 1) := by decide +kernel
theorem dX4_poke_1 : decode cX4_poke 1 = .ok (.iload_n 1, 1) := by decide +kernel
theorem dX4_poke_2 : decode cX4_poke 2 = .ok (.invokevirtual 151, 3) := by decide +kernel
theorem dX4_poke_5 : decode cX4_poke 5 = .ok (.aload_n 0, 1) := by decide +kernel
theorem dX4_poke_6 : decode cX4_poke 6 = .ok (.getfield 12, 3) := by decide +kernel
theorem dX4_poke_9 : decode cX4_poke 9 = .ok (.iload_n 1, 1) := by decide +kernel
theorem dX4_poke_10 : decode cX4_poke 10 = .ok (.invokevirtual 154, 3) := by decide +kernel
theorem dX4_poke_13 : decode cX4_poke 13 = .ok (.istore_n 3, 1) := by decide +kernel
theorem dX4_poke_14 : decode cX4_poke 14 = .ok (.aload_n 0, 1) := by decide +kernel
theorem dX4_poke_15 : decode cX4_poke 15 = .ok (.getfield 12, 3) := by decide +kernel
theorem dX4_poke_18 : decode cX4_poke 18 = .ok (.iload_n 1, 1) := by decide +kernel
theorem dX4_poke_19 : decode cX4_poke 19 = .ok (.iload_n 3, 1) := by decide +kernel
theorem dX4_poke_20 : decode cX4_poke 20 = .ok (.iload_n 2, 1) := by decide +kernel
theorem dX4_poke_21 : decode cX4_poke 21 = .ok (.ixor, 1) := by decide +kernel
theorem dX4_poke_22 : decode cX4_poke 22 = .ok (.invokevirtual 157, 3) := by decide +kernel
theorem dX4_poke_25 : decode cX4_poke 25 = .ok (.iload_n 3, 1) := by decide +kernel
theorem dX4_poke_26 : decode cX4_poke 26 = .ok (.ireturn, 1) := by decide +kernel
theorem dX4_byteAt_0 : decode cX4_byteAt 0 = .ok (.aload_n 0, 1) := by decide +kernel
theorem dX4_byteAt_1 : decode cX4_byteAt 1 = .ok (.iload_n 1, 1) := by decide +kernel
theorem dX4_byteAt_2 : decode cX4_byteAt 2 = .ok (.invokevirtual 151, 3) := by decide +kernel
theorem dX4_byteAt_5 : decode cX4_byteAt 5 = .ok (.aload_n 0, 1) := by decide +kernel
theorem dX4_byteAt_6 : decode cX4_byteAt 6 = .ok (.getfield 12, 3) := by decide +kernel
theorem dX4_byteAt_9 : decode cX4_byteAt 9 = .ok (.iload_n 1, 1) := by decide +kernel
theorem dX4_byteAt_10 : decode cX4_byteAt 10 = .ok (.invokevirtual 154, 3) := by decide +kernel
theorem dX4_byteAt_13 : decode cX4_byteAt 13 = .ok (.ireturn, 1) := by decide +kernel
theorem dX4_badAt_0 : decode cX4_badAt 0 = .ok (.aload_n 0, 1) := by decide +kernel
theorem dX4_badAt_1 : decode cX4_badAt 1 = .ok (.invokevirtual 50, 3) := by decide +kernel
theorem dX4_badAt_4 : decode cX4_badAt 4 = .ok (.aload_n 0, 1) := by decide +kernel
theorem dX4_badAt_5 : decode cX4_badAt 5 = .ok (.getfield 23, 3) := by decide +kernel
theorem dX4_badAt_8 : decode cX4_badAt 8 = .ok (.aload_n 0, 1) := by decide +kernel
theorem dX4_badAt_9 : decode cX4_badAt 9 = .ok (.getfield 12, 3) := by decide +kernel
theorem dX4_badAt_12 : decode cX4_badAt 12 = .ok (.aload_n 0, 1) := by decide +kernel
theorem dX4_badAt_13 : decode cX4_badAt 13 = .ok (.getfield 19, 3) := by decide +kernel
theorem dX4_badAt_16 : decode cX4_badAt 16 = .ok (.getfield 160, 3) := by decide +kernel
theorem dX4_badAt_19 : decode cX4_badAt 19 = .ok (.aload_n 0, 1) := by decide +kernel
theorem dX4_badAt_20 : decode cX4_badAt 20 = .ok (.getfield 19, 3) := by decide +kernel
theorem dX4_badAt_23 : decode cX4_badAt 23 = .ok (.getfield 138, 3) := by decide +kernel
theorem dX4_badAt_26 : decode cX4_badAt 26 = .ok (.invokevirtual 141, 3) := by decide +kernel
theorem dX4_badAt_29 : decode cX4_badAt 29 = .ok (.ireturn, 1) := by decide +kernel
theorem dX4_has_0 : decode cX4_has 0 = .ok (.aload_n 0, 1) := by decide +kernel
theorem dX4_has_1 : decode cX4_has 1 = .ok (.invokevirtual 50, 3) := by decide +kernel
theorem dX4_has_4 : decode cX4_has 4 = .ok (.aload_n 0, 1) := by decide +kernel
theorem dX4_has_5 : decode cX4_has 5 = .ok (.iload_n 1, 1) := by decide +kernel
theorem dX4_has_6 : decode cX4_has 6 = .ok (.invokevirtual 163, 3) := by decide +kernel
theorem dX4_has_9 : decode cX4_has 9 = .ok (.aload_n 0, 1) := by decide +kernel
theorem dX4_has_10 : decode cX4_has 10 = .ok (.iload_n 2, 1) := by decide +kernel
theorem dX4_has_11 : decode cX4_has 11 = .ok (.invokevirtual 53, 3) := by decide +kernel
theorem dX4_has_14 : decode cX4_has 14 = .ok (.aload_n 0, 1) := by decide +kernel
theorem dX4_has_15 : decode cX4_has 15 = .ok (.iload_n 3, 1) := by decide +kernel
theorem dX4_has_16 : decode cX4_has 16 = .ok (.invokevirtual 53, 3) := by decide +kernel
theorem dX4_has_19 : decode cX4_has 19 = .ok (.aload_n 0, 1) := by decide +kernel
theorem dX4_has_20 : decode cX4_has 20 = .ok (.getfield 19, 3) := by decide +kernel
theorem dX4_has_23 : decode cX4_has 23 = .ok (.iload_n 1, 1) := by decide +kernel
theorem dX4_has_24 : decode cX4_has 24 = .ok (.iload_n 2, 1) := by decide +kernel
theorem dX4_has_25 : decode cX4_has 25 = .ok (.iload_n 3, 1) := by decide +kernel
theorem dX4_has_26 : decode cX4_has 26 = .ok (.invokevirtual 56, 3) := by decide +kernel
theorem dX4_has_29 : decode cX4_has 29 = .ok (.ireturn, 1) := by decide +kernel
theorem dX4_chunk_0 : decode cX4_chunk 0 = .ok (.aload_n 0, 1) := by decide +kernel
theorem dX4_chunk_1 : decode cX4_chunk 1 = .ok (.invokevirtual 50, 3) := by decide +kernel
theorem dX4_chunk_4 : decode cX4_chunk 4 = .ok (.aload_n 0, 1) := by decide +kernel
theorem dX4_chunk_5 : decode cX4_chunk 5 = .ok (.iload_n 1, 1) := by decide +kernel
theorem dX4_chunk_6 : decode cX4_chunk 6 = .ok (.invokevirtual 100, 3) := by decide +kernel
theorem dX4_chunk_9 : decode cX4_chunk 9 = .ok (.iload_n 2, 1) := by decide +kernel
theorem dX4_chunk_10 : decode cX4_chunk 10 = .ok (.ifCond .lt 9, 3) := by decide +kernel
theorem dX4_chunk_13 : decode cX4_chunk 13 = .ok (.iload_n 2, 1) := by decide +kernel
theorem dX4_chunk_14 : decode cX4_chunk 14 = .ok (.bipush 8, 2) := by decide +kernel
theorem dX4_chunk_16 : decode cX4_chunk 16 = .ok (.if_icmp .lt 13, 3) := by decide +kernel
theorem dX4_chunk_19 : decode cX4_chunk 19 = .ok (.new 166, 3) := by decide +kernel
theorem dX4_chunk_22 : decode cX4_chunk 22 = .ok (.dup, 1) := by decide +kernel
theorem dX4_chunk_23 : decode cX4_chunk 23 = .ok (.ldc 168, 2) := by decide +kernel
theorem dX4_chunk_25 : decode cX4_chunk 25 = .ok (.invokespecial 170, 3) := by decide +kernel
theorem dX4_chunk_28 : decode cX4_chunk 28 = .ok (.athrow, 1) := by decide +kernel
theorem dX4_chunk_29 : decode cX4_chunk 29 = .ok (.aload_n 0, 1) := by decide +kernel
theorem dX4_chunk_30 : decode cX4_chunk 30 = .ok (.getfield 19, 3) := by decide +kernel
theorem dX4_chunk_33 : decode cX4_chunk 33 = .ok (.getfield 110, 3) := by decide +kernel
theorem dX4_chunk_36 : decode cX4_chunk 36 = .ok (.aload_n 0, 1) := by decide +kernel
theorem dX4_chunk_37 : decode cX4_chunk 37 = .ok (.getfield 19, 3) := by decide +kernel
theorem dX4_chunk_40 : decode cX4_chunk 40 = .ok (.iload_n 1, 1) := by decide +kernel
theorem dX4_chunk_41 : decode cX4_chunk 41 = .ok (.iload_n 2, 1) := by decide +kernel
theorem dX4_chunk_42 : decode cX4_chunk 42 = .ok (.invokevirtual 171, 3) := by decide +kernel
theorem dX4_chunk_45 : decode cX4_chunk 45 = .ok (.invokevirtual 175, 3) := by decide +kernel
theorem dX4_chunk_48 : decode cX4_chunk 48 = .ok (.ireturn, 1) := by decide +kernel
theorem dX4_named_0 : decode cX4_named 0 = .ok (.aload_n 0, 1) := by decide +kernel
theorem dX4_named_1 : decode cX4_named 1 = .ok (.invokevirtual 50, 3) := by decide +kernel
theorem dX4_named_4 : decode cX4_named 4 = .ok (.iload_n 1, 1) := by decide +kernel
theorem dX4_named_5 : decode cX4_named 5 = .ok (.ifCond .lt 14, 3) := by decide +kernel
theorem dX4_named_8 : decode cX4_named 8 = .ok (.iload_n 1, 1) := by decide +kernel
theorem dX4_named_9 : decode cX4_named 9 = .ok (.aload_n 0, 1) := by decide +kernel
theorem dX4_named_10 : decode cX4_named 10 = .ok (.getfield 19, 3) := by decide +kernel
theorem dX4_named_13 : decode cX4_named 13 = .ok (.getfield 138, 3) := by decide +kernel
theorem dX4_named_16 : decode cX4_named 16 = .ok (.if_icmp .lt 13, 3) := by decide +kernel
theorem dX4_named_19 : decode cX4_named 19 = .ok (.new 166, 3) := by decide +kernel
theorem dX4_named_22 : decode cX4_named 22 = .ok (.dup, 1) := by decide +kernel
theorem dX4_named_23 : decode cX4_named 23 = .ok (.ldc 178, 2) := by decide +kernel
theorem dX4_named_25 : decode cX4_named 25 = .ok (.invokespecial 170, 3) := by decide +kernel
theorem dX4_named_28 : decode cX4_named 28 = .ok (.athrow, 1) := by decide +kernel
theorem dX4_named_29 : decode cX4_named 29 = .ok (.aload_n 0, 1) := by decide +kernel
theorem dX4_named_30 : decode cX4_named 30 = .ok (.getfield 19, 3) := by decide +kernel
theorem dX4_named_33 : decode cX4_named 33 = .ok (.getfield 110, 3) := by decide +kernel
theorem dX4_named_36 : decode cX4_named 36 = .ok (.aload_n 0, 1) := by decide +kernel
theorem dX4_named_37 : decode cX4_named 37 = .ok (.getfield 19, 3) := by decide +kernel
theorem dX4_named_40 : decode cX4_named 40 = .ok (.getfield 110, 3) := by decide +kernel
theorem dX4_named_43 : decode cX4_named 43 = .ok (.iload_n 1, 1) := by decide +kernel
theorem dX4_named_44 : decode cX4_named 44 = .ok (.invokevirtual 180, 3) := by decide +kernel
theorem dX4_named_47 : decode cX4_named 47 = .ok (.invokevirtual 183, 3) := by decide +kernel
theorem dX4_named_50 : decode cX4_named 50 = .ok (.ireturn, 1) := by decide +kernel
theorem dX4_differ_0 : decode cX4_differ 0 = .ok (.aload_n 0, 1) := by decide +kernel
theorem dX4_differ_1 : decode cX4_differ 1 = .ok (.invokevirtual 50, 3) := by decide +kernel
theorem dX4_differ_4 : decode cX4_differ 4 = .ok (.aload_n 0, 1) := by decide +kernel
theorem dX4_differ_5 : decode cX4_differ 5 = .ok (.iload_n 1, 1) := by decide +kernel
theorem dX4_differ_6 : decode cX4_differ 6 = .ok (.invokevirtual 163, 3) := by decide +kernel
theorem dX4_differ_9 : decode cX4_differ 9 = .ok (.aload_n 0, 1) := by decide +kernel
theorem dX4_differ_10 : decode cX4_differ 10 = .ok (.iload_n 2, 1) := by decide +kernel
theorem dX4_differ_11 : decode cX4_differ 11 = .ok (.invokevirtual 163, 3) := by decide +kernel
theorem dX4_differ_14 : decode cX4_differ 14 = .ok (.iconst 0, 1) := by decide +kernel
theorem dX4_differ_15 : decode cX4_differ 15 = .ok (.istore_n 3, 1) := by decide +kernel
theorem dX4_differ_16 : decode cX4_differ 16 = .ok (.iconst 0, 1) := by decide +kernel
theorem dX4_differ_17 : decode cX4_differ 17 = .ok (.istore 4, 2) := by decide +kernel
theorem dX4_differ_19 : decode cX4_differ 19 = .ok (.iload 4, 2) := by decide +kernel
theorem dX4_differ_21 : decode cX4_differ 21 = .ok (.bipush 64, 2) := by decide +kernel
theorem dX4_differ_23 : decode cX4_differ 23 = .ok (.if_icmp .ge 36, 3) := by decide +kernel
theorem dX4_differ_26 : decode cX4_differ 26 = .ok (.iload_n 3, 1) := by decide +kernel
theorem dX4_differ_27 : decode cX4_differ 27 = .ok (.aload_n 0, 1) := by decide +kernel
theorem dX4_differ_28 : decode cX4_differ 28 = .ok (.getfield 19, 3) := by decide +kernel
theorem dX4_differ_31 : decode cX4_differ 31 = .ok (.iload_n 1, 1) := by decide +kernel
theorem dX4_differ_32 : decode cX4_differ 32 = .ok (.iload 4, 2) := by decide +kernel
theorem dX4_differ_34 : decode cX4_differ 34 = .ok (.invokevirtual 186, 3) := by decide +kernel
theorem dX4_differ_37 : decode cX4_differ 37 = .ok (.aload_n 0, 1) := by decide +kernel
theorem dX4_differ_38 : decode cX4_differ 38 = .ok (.getfield 19, 3) := by decide +kernel
theorem dX4_differ_41 : decode cX4_differ 41 = .ok (.iload_n 2, 1) := by decide +kernel
theorem dX4_differ_42 : decode cX4_differ 42 = .ok (.iload 4, 2) := by decide +kernel
theorem dX4_differ_44 : decode cX4_differ 44 = .ok (.invokevirtual 186, 3) := by decide +kernel
theorem dX4_differ_47 : decode cX4_differ 47 = .ok (.lxor, 1) := by decide +kernel
theorem dX4_differ_48 : decode cX4_differ 48 = .ok (.invokestatic 189, 3) := by decide +kernel
theorem dX4_differ_51 : decode cX4_differ 51 = .ok (.iadd, 1) := by decide +kernel
theorem dX4_differ_52 : decode cX4_differ 52 = .ok (.istore_n 3, 1) := by decide +kernel
theorem dX4_differ_53 : decode cX4_differ 53 = .ok (.iinc 4 1, 3) := by decide +kernel
theorem dX4_differ_56 : decode cX4_differ 56 = .ok (.goto (-37), 3) := by decide +kernel
theorem dX4_differ_59 : decode cX4_differ 59 = .ok (.iload_n 3, 1) := by decide +kernel
theorem dX4_differ_60 : decode cX4_differ 60 = .ok (.ireturn, 1) := by decide +kernel
theorem dX4_far_0 : decode cX4_far 0 = .ok (.aload_n 0, 1) := by decide +kernel
theorem dX4_far_1 : decode cX4_far 1 = .ok (.invokevirtual 50, 3) := by decide +kernel
theorem dX4_far_4 : decode cX4_far 4 = .ok (.aload_n 0, 1) := by decide +kernel
theorem dX4_far_5 : decode cX4_far 5 = .ok (.iload_n 1, 1) := by decide +kernel
theorem dX4_far_6 : decode cX4_far 6 = .ok (.invokevirtual 163, 3) := by decide +kernel
theorem dX4_far_9 : decode cX4_far 9 = .ok (.aload_n 0, 1) := by decide +kernel
theorem dX4_far_10 : decode cX4_far 10 = .ok (.iload_n 2, 1) := by decide +kernel
theorem dX4_far_11 : decode cX4_far 11 = .ok (.invokevirtual 53, 3) := by decide +kernel
theorem dX4_far_14 : decode cX4_far 14 = .ok (.aload_n 0, 1) := by decide +kernel
theorem dX4_far_15 : decode cX4_far 15 = .ok (.iload_n 3, 1) := by decide +kernel
theorem dX4_far_16 : decode cX4_far 16 = .ok (.invokevirtual 53, 3) := by decide +kernel
theorem dX4_far_19 : decode cX4_far 19 = .ok (.lconst 1, 1) := by decide +kernel
theorem dX4_far_20 : decode cX4_far 20 = .ok (.iload_n 2, 1) := by decide +kernel
theorem dX4_far_21 : decode cX4_far 21 = .ok (.lshl, 1) := by decide +kernel
theorem dX4_far_22 : decode cX4_far 22 = .ok (.lstore 4, 2) := by decide +kernel
theorem dX4_far_24 : decode cX4_far 24 = .ok (.lload 4, 2) := by decide +kernel
theorem dX4_far_26 : decode cX4_far 26 = .ok (.lstore 6, 2) := by decide +kernel
theorem dX4_far_28 : decode cX4_far 28 = .ok (.iconst 0, 1) := by decide +kernel
theorem dX4_far_29 : decode cX4_far 29 = .ok (.istore 8, 2) := by decide +kernel
theorem dX4_far_31 : decode cX4_far 31 = .ok (.iload 8, 2) := by decide +kernel
theorem dX4_far_33 : decode cX4_far 33 = .ok (.bipush 64, 2) := by decide +kernel
theorem dX4_far_35 : decode cX4_far 35 = .ok (.if_icmp .ge 46, 3) := by decide +kernel
theorem dX4_far_38 : decode cX4_far 38 = .ok (.lload 6, 2) := by decide +kernel
theorem dX4_far_40 : decode cX4_far 40 = .ok (.iload_n 3, 1) := by decide +kernel
theorem dX4_far_41 : decode cX4_far 41 = .ok (.lushr, 1) := by decide +kernel
theorem dX4_far_42 : decode cX4_far 42 = .ok (.lconst 1, 1) := by decide +kernel
theorem dX4_far_43 : decode cX4_far 43 = .ok (.land, 1) := by decide +kernel
theorem dX4_far_44 : decode cX4_far 44 = .ok (.lconst 0, 1) := by decide +kernel
theorem dX4_far_45 : decode cX4_far 45 = .ok (.lcmp, 1) := by decide +kernel
theorem dX4_far_46 : decode cX4_far 46 = .ok (.ifCond .eq 6, 3) := by decide +kernel
theorem dX4_far_49 : decode cX4_far 49 = .ok (.iload 8, 2) := by decide +kernel
theorem dX4_far_51 : decode cX4_far 51 = .ok (.ireturn, 1) := by decide +kernel
theorem dX4_far_52 : decode cX4_far 52 = .ok (.aload_n 0, 1) := by decide +kernel
theorem dX4_far_53 : decode cX4_far 53 = .ok (.iload_n 1, 1) := by decide +kernel
theorem dX4_far_54 : decode cX4_far 54 = .ok (.lload 6, 2) := by decide +kernel
theorem dX4_far_56 : decode cX4_far 56 = .ok (.invokevirtual 195, 3) := by decide +kernel
theorem dX4_far_59 : decode cX4_far 59 = .ok (.lload 4, 2) := by decide +kernel
theorem dX4_far_61 : decode cX4_far 61 = .ok (.ldc2_w 199, 3) := by decide +kernel
theorem dX4_far_64 : decode cX4_far 64 = .ok (.lxor, 1) := by decide +kernel
theorem dX4_far_65 : decode cX4_far 65 = .ok (.land, 1) := by decide +kernel
theorem dX4_far_66 : decode cX4_far 66 = .ok (.lstore 6, 2) := by decide +kernel
theorem dX4_far_68 : decode cX4_far 68 = .ok (.lload 4, 2) := by decide +kernel
theorem dX4_far_70 : decode cX4_far 70 = .ok (.lload 6, 2) := by decide +kernel
theorem dX4_far_72 : decode cX4_far 72 = .ok (.lor, 1) := by decide +kernel
theorem dX4_far_73 : decode cX4_far 73 = .ok (.lstore 4, 2) := by decide +kernel
theorem dX4_far_75 : decode cX4_far 75 = .ok (.iinc 8 1, 3) := by decide +kernel
theorem dX4_far_78 : decode cX4_far 78 = .ok (.goto (-47), 3) := by decide +kernel
theorem dX4_far_81 : decode cX4_far 81 = .ok (.iconst (-1), 1) := by decide +kernel
theorem dX4_far_82 : decode cX4_far 82 = .ok (.ireturn, 1) := by decide +kernel
theorem dX4_usable_0 : decode cX4_usable 0 = .ok (.aload_n 0, 1) := by decide +kernel
theorem dX4_usable_1 : decode cX4_usable 1 = .ok (.invokevirtual 50, 3) := by decide +kernel
theorem dX4_usable_4 : decode cX4_usable 4 = .ok (.aload_n 0, 1) := by decide +kernel
theorem dX4_usable_5 : decode cX4_usable 5 = .ok (.iload_n 1, 1) := by decide +kernel
theorem dX4_usable_6 : decode cX4_usable 6 = .ok (.invokevirtual 201, 3) := by decide +kernel
theorem dX4_usable_9 : decode cX4_usable 9 = .ok (.aload_n 0, 1) := by decide +kernel
theorem dX4_usable_10 : decode cX4_usable 10 = .ok (.getfield 19, 3) := by decide +kernel
theorem dX4_usable_13 : decode cX4_usable 13 = .ok (.aload_n 0, 1) := by decide +kernel
theorem dX4_usable_14 : decode cX4_usable 14 = .ok (.getfield 19, 3) := by decide +kernel
theorem dX4_usable_17 : decode cX4_usable 17 = .ok (.iload_n 1, 1) := by decide +kernel
theorem dX4_usable_18 : decode cX4_usable 18 = .ok (.invokevirtual 204, 3) := by decide +kernel
theorem dX4_usable_21 : decode cX4_usable 21 = .ok (.invokevirtual 207, 3) := by decide +kernel
theorem dX4_usable_24 : decode cX4_usable 24 = .ok (.ireturn, 1) := by decide +kernel
theorem dX4_mask_0 : decode cX4_mask 0 = .ok (.aload_n 0, 1) := by decide +kernel
theorem dX4_mask_1 : decode cX4_mask 1 = .ok (.invokevirtual 50, 3) := by decide +kernel
theorem dX4_mask_4 : decode cX4_mask 4 = .ok (.aload_n 0, 1) := by decide +kernel
theorem dX4_mask_5 : decode cX4_mask 5 = .ok (.iload_n 1, 1) := by decide +kernel
theorem dX4_mask_6 : decode cX4_mask 6 = .ok (.invokevirtual 201, 3) := by decide +kernel
theorem dX4_mask_9 : decode cX4_mask 9 = .ok (.aload_n 0, 1) := by decide +kernel
theorem dX4_mask_10 : decode cX4_mask 10 = .ok (.getfield 19, 3) := by decide +kernel
theorem dX4_mask_13 : decode cX4_mask 13 = .ok (.iload_n 1, 1) := by decide +kernel
theorem dX4_mask_14 : decode cX4_mask 14 = .ok (.invokevirtual 210, 3) := by decide +kernel
theorem dX4_mask_17 : decode cX4_mask 17 = .ok (.lreturn, 1) := by decide +kernel
theorem dX4_told_0 : decode cX4_told 0 = .ok (.aload_n 0, 1) := by decide +kernel
theorem dX4_told_1 : decode cX4_told 1 = .ok (.invokevirtual 50, 3) := by decide +kernel
theorem dX4_told_4 : decode cX4_told 4 = .ok (.iload_n 1, 1) := by decide +kernel
theorem dX4_told_5 : decode cX4_told 5 = .ok (.tableswitch 135 0 9 #[55, 63, 71, 79, 87, 95, 100, 108, 119, 127], 55) := by decide +kernel
theorem dX4_told_60 : decode cX4_told 60 = .ok (.aload_n 0, 1) := by decide +kernel
theorem dX4_told_61 : decode cX4_told 61 = .ok (.getfield 19, 3) := by decide +kernel
theorem dX4_told_64 : decode cX4_told 64 = .ok (.invokevirtual 148, 3) := by decide +kernel
theorem dX4_told_67 : decode cX4_told 67 = .ok (.ireturn, 1) := by decide +kernel
theorem dX4_told_68 : decode cX4_told 68 = .ok (.aload_n 0, 1) := by decide +kernel
theorem dX4_told_69 : decode cX4_told 69 = .ok (.getfield 19, 3) := by decide +kernel
theorem dX4_told_72 : decode cX4_told 72 = .ok (.getfield 79, 3) := by decide +kernel
theorem dX4_told_75 : decode cX4_told 75 = .ok (.ireturn, 1) := by decide +kernel
theorem dX4_told_76 : decode cX4_told 76 = .ok (.aload_n 0, 1) := by decide +kernel
theorem dX4_told_77 : decode cX4_told 77 = .ok (.getfield 19, 3) := by decide +kernel
theorem dX4_told_80 : decode cX4_told 80 = .ok (.getfield 103, 3) := by decide +kernel
theorem dX4_told_83 : decode cX4_told 83 = .ok (.ireturn, 1) := by decide +kernel
theorem dX4_told_84 : decode cX4_told 84 = .ok (.aload_n 0, 1) := by decide +kernel
theorem dX4_told_85 : decode cX4_told 85 = .ok (.getfield 19, 3) := by decide +kernel
theorem dX4_told_88 : decode cX4_told 88 = .ok (.getfield 160, 3) := by decide +kernel
theorem dX4_told_91 : decode cX4_told 91 = .ok (.ireturn, 1) := by decide +kernel
theorem dX4_told_92 : decode cX4_told 92 = .ok (.aload_n 0, 1) := by decide +kernel
theorem dX4_told_93 : decode cX4_told 93 = .ok (.getfield 19, 3) := by decide +kernel
theorem dX4_told_96 : decode cX4_told 96 = .ok (.getfield 64, 3) := by decide +kernel
theorem dX4_told_99 : decode cX4_told 99 = .ok (.ireturn, 1) := by decide +kernel
theorem dX4_told_100 : decode cX4_told 100 = .ok (.aload_n 0, 1) := by decide +kernel
theorem dX4_told_101 : decode cX4_told 101 = .ok (.getfield 119, 3) := by decide +kernel
theorem dX4_told_104 : decode cX4_told 104 = .ok (.ireturn, 1) := by decide +kernel
theorem dX4_told_105 : decode cX4_told 105 = .ok (.aload_n 0, 1) := by decide +kernel
theorem dX4_told_106 : decode cX4_told 106 = .ok (.getfield 19, 3) := by decide +kernel
theorem dX4_told_109 : decode cX4_told 109 = .ok (.invokevirtual 214, 3) := by decide +kernel
theorem dX4_told_112 : decode cX4_told 112 = .ok (.ireturn, 1) := by decide +kernel
theorem dX4_told_113 : decode cX4_told 113 = .ok (.aload_n 0, 1) := by decide +kernel
theorem dX4_told_114 : decode cX4_told 114 = .ok (.getfield 19, 3) := by decide +kernel
theorem dX4_told_117 : decode cX4_told 117 = .ok (.getfield 110, 3) := by decide +kernel
theorem dX4_told_120 : decode cX4_told 120 = .ok (.invokevirtual 114, 3) := by decide +kernel
theorem dX4_told_123 : decode cX4_told 123 = .ok (.ireturn, 1) := by decide +kernel
theorem dX4_told_124 : decode cX4_told 124 = .ok (.aload_n 0, 1) := by decide +kernel
theorem dX4_told_125 : decode cX4_told 125 = .ok (.getfield 19, 3) := by decide +kernel
theorem dX4_told_128 : decode cX4_told 128 = .ok (.getfield 217, 3) := by decide +kernel
theorem dX4_told_131 : decode cX4_told 131 = .ok (.ireturn, 1) := by decide +kernel
theorem dX4_told_132 : decode cX4_told 132 = .ok (.aload_n 0, 1) := by decide +kernel
theorem dX4_told_133 : decode cX4_told 133 = .ok (.getfield 12, 3) := by decide +kernel
theorem dX4_told_136 : decode cX4_told 136 = .ok (.getfield 220, 3) := by decide +kernel
theorem dX4_told_139 : decode cX4_told 139 = .ok (.ireturn, 1) := by decide +kernel
theorem dX4_told_140 : decode cX4_told 140 = .ok (.new 166, 3) := by decide +kernel
theorem dX4_told_143 : decode cX4_told 143 = .ok (.dup, 1) := by decide +kernel
theorem dX4_told_144 : decode cX4_told 144 = .ok (.ldc 223, 2) := by decide +kernel
theorem dX4_told_146 : decode cX4_told 146 = .ok (.invokespecial 170, 3) := by decide +kernel
theorem dX4_told_149 : decode cX4_told 149 = .ok (.athrow, 1) := by decide +kernel
theorem dX4_isOpen_0 : decode cX4_isOpen 0 = .ok (.aload_n 0, 1) := by decide +kernel
theorem dX4_isOpen_1 : decode cX4_isOpen 1 = .ok (.getfield 125, 3) := by decide +kernel
theorem dX4_isOpen_4 : decode cX4_isOpen 4 = .ok (.ireturn, 1) := by decide +kernel
theorem dX4_requireOpen_0 : decode cX4_requireOpen 0 = .ok (.aload_n 0, 1) := by decide +kernel
theorem dX4_requireOpen_1 : decode cX4_requireOpen 1 = .ok (.getfield 125, 3) := by decide +kernel
theorem dX4_requireOpen_4 : decode cX4_requireOpen 4 = .ok (.ifCond .ne 13, 3) := by decide +kernel
theorem dX4_requireOpen_7 : decode cX4_requireOpen 7 = .ok (.new 225, 3) := by decide +kernel
theorem dX4_requireOpen_10 : decode cX4_requireOpen 10 = .ok (.dup, 1) := by decide +kernel
theorem dX4_requireOpen_11 : decode cX4_requireOpen 11 = .ok (.ldc 227, 2) := by decide +kernel
theorem dX4_requireOpen_13 : decode cX4_requireOpen 13 = .ok (.invokespecial 229, 3) := by decide +kernel
theorem dX4_requireOpen_16 : decode cX4_requireOpen 16 = .ok (.athrow, 1) := by decide +kernel
theorem dX4_requireOpen_17 : decode cX4_requireOpen 17 = .ok (.return_, 1) := by decide +kernel
theorem dX4_requireNode_0 : decode cX4_requireNode 0 = .ok (.iload_n 1, 1) := by decide +kernel
theorem dX4_requireNode_1 : decode cX4_requireNode 1 = .ok (.ifCond .lt 9, 3) := by decide +kernel
theorem dX4_requireNode_4 : decode cX4_requireNode 4 = .ok (.iload_n 1, 1) := by decide +kernel
theorem dX4_requireNode_5 : decode cX4_requireNode 5 = .ok (.bipush 64, 2) := by decide +kernel
theorem dX4_requireNode_7 : decode cX4_requireNode 7 = .ok (.if_icmp .lt 13, 3) := by decide +kernel
theorem dX4_requireNode_10 : decode cX4_requireNode 10 = .ok (.new 166, 3) := by decide +kernel
theorem dX4_requireNode_13 : decode cX4_requireNode 13 = .ok (.dup, 1) := by decide +kernel
theorem dX4_requireNode_14 : decode cX4_requireNode 14 = .ok (.ldc 230, 2) := by decide +kernel
theorem dX4_requireNode_16 : decode cX4_requireNode 16 = .ok (.invokespecial 170, 3) := by decide +kernel
theorem dX4_requireNode_19 : decode cX4_requireNode 19 = .ok (.athrow, 1) := by decide +kernel
theorem dX4_requireNode_20 : decode cX4_requireNode 20 = .ok (.return_, 1) := by decide +kernel
theorem dX4_requireVersion_0 : decode cX4_requireVersion 0 = .ok (.aload_n 0, 1) := by decide +kernel
theorem dX4_requireVersion_1 : decode cX4_requireVersion 1 = .ok (.getfield 19, 3) := by decide +kernel
theorem dX4_requireVersion_4 : decode cX4_requireVersion 4 = .ok (.iload_n 1, 1) := by decide +kernel
theorem dX4_requireVersion_5 : decode cX4_requireVersion 5 = .ok (.invokevirtual 207, 3) := by decide +kernel
theorem dX4_requireVersion_8 : decode cX4_requireVersion 8 = .ok (.ifCond .ne 13, 3) := by decide +kernel
theorem dX4_requireVersion_11 : decode cX4_requireVersion 11 = .ok (.new 166, 3) := by decide +kernel
theorem dX4_requireVersion_14 : decode cX4_requireVersion 14 = .ok (.dup, 1) := by decide +kernel
theorem dX4_requireVersion_15 : decode cX4_requireVersion 15 = .ok (.ldc 232, 2) := by decide +kernel
theorem dX4_requireVersion_17 : decode cX4_requireVersion 17 = .ok (.invokespecial 170, 3) := by decide +kernel
theorem dX4_requireVersion_20 : decode cX4_requireVersion 20 = .ok (.athrow, 1) := by decide +kernel
theorem dX4_requireVersion_21 : decode cX4_requireVersion 21 = .ok (.return_, 1) := by decide +kernel
theorem dX4_requireGraph_0 : decode cX4_requireGraph 0 = .ok (.iload_n 1, 1) := by decide +kernel
theorem dX4_requireGraph_1 : decode cX4_requireGraph 1 = .ok (.iconst (-1), 1) := by decide +kernel
theorem dX4_requireGraph_2 : decode cX4_requireGraph 2 = .ok (.if_icmp .eq 8, 3) := by decide +kernel
theorem dX4_requireGraph_5 : decode cX4_requireGraph 5 = .ok (.aload_n 0, 1) := by decide +kernel
theorem dX4_requireGraph_6 : decode cX4_requireGraph 6 = .ok (.iload_n 1, 1) := by decide +kernel
theorem dX4_requireGraph_7 : decode cX4_requireGraph 7 = .ok (.invokevirtual 100, 3) := by decide +kernel
theorem dX4_requireGraph_10 : decode cX4_requireGraph 10 = .ok (.return_, 1) := by decide +kernel
theorem dX4_requireAnswer_0 : decode cX4_requireAnswer 0 = .ok (.iload_n 1, 1) := by decide +kernel
theorem dX4_requireAnswer_1 : decode cX4_requireAnswer 1 = .ok (.ifCond .lt 14, 3) := by decide +kernel
theorem dX4_requireAnswer_4 : decode cX4_requireAnswer 4 = .ok (.iload_n 1, 1) := by decide +kernel
theorem dX4_requireAnswer_5 : decode cX4_requireAnswer 5 = .ok (.aload_n 0, 1) := by decide +kernel
theorem dX4_requireAnswer_6 : decode cX4_requireAnswer 6 = .ok (.getfield 19, 3) := by decide +kernel
theorem dX4_requireAnswer_9 : decode cX4_requireAnswer 9 = .ok (.getfield 103, 3) := by decide +kernel
theorem dX4_requireAnswer_12 : decode cX4_requireAnswer 12 = .ok (.if_icmp .lt 13, 3) := by decide +kernel
theorem dX4_requireAnswer_15 : decode cX4_requireAnswer 15 = .ok (.new 166, 3) := by decide +kernel
theorem dX4_requireAnswer_18 : decode cX4_requireAnswer 18 = .ok (.dup, 1) := by decide +kernel
theorem dX4_requireAnswer_19 : decode cX4_requireAnswer 19 = .ok (.ldc 234, 2) := by decide +kernel
theorem dX4_requireAnswer_21 : decode cX4_requireAnswer 21 = .ok (.invokespecial 170, 3) := by decide +kernel
theorem dX4_requireAnswer_24 : decode cX4_requireAnswer 24 = .ok (.athrow, 1) := by decide +kernel
theorem dX4_requireAnswer_25 : decode cX4_requireAnswer 25 = .ok (.return_, 1) := by decide +kernel
theorem dX4_requirePlace_0 : decode cX4_requirePlace 0 = .ok (.iload_n 1, 1) := by decide +kernel
theorem dX4_requirePlace_1 : decode cX4_requirePlace 1 = .ok (.ifCond .lt 10, 3) := by decide +kernel
theorem dX4_requirePlace_4 : decode cX4_requirePlace 4 = .ok (.iload_n 1, 1) := by decide +kernel
theorem dX4_requirePlace_5 : decode cX4_requirePlace 5 = .ok (.sipush 24032, 3) := by decide +kernel
theorem dX4_requirePlace_8 : decode cX4_requirePlace 8 = .ok (.if_icmp .lt 13, 3) := by decide +kernel
theorem dX4_requirePlace_11 : decode cX4_requirePlace 11 = .ok (.new 166, 3) := by decide +kernel
theorem dX4_requirePlace_14 : decode cX4_requirePlace 14 = .ok (.dup, 1) := by decide +kernel
theorem dX4_requirePlace_15 : decode cX4_requirePlace 15 = .ok (.ldc 236, 2) := by decide +kernel
theorem dX4_requirePlace_17 : decode cX4_requirePlace 17 = .ok (.invokespecial 170, 3) := by decide +kernel
theorem dX4_requirePlace_20 : decode cX4_requirePlace 20 = .ok (.athrow, 1) := by decide +kernel
theorem dX4_requirePlace_21 : decode cX4_requirePlace 21 = .ok (.return_, 1) := by decide +kernel
theorem dX4_startAnew_0 : decode cX4_startAnew 0 = .ok (.aload_n 0, 1) := by decide +kernel
theorem dX4_startAnew_1 : decode cX4_startAnew 1 = .ok (.getfield 12, 3) := by decide +kernel
theorem dX4_startAnew_4 : decode cX4_startAnew 4 = .ok (.invokevirtual 238, 3) := by decide +kernel
theorem dX4_startAnew_7 : decode cX4_startAnew 7 = .ok (.aload_n 0, 1) := by decide +kernel
theorem dX4_startAnew_8 : decode cX4_startAnew 8 = .ok (.getfield 19, 3) := by decide +kernel
theorem dX4_startAnew_11 : decode cX4_startAnew 11 = .ok (.iload_n 1, 1) := by decide +kernel
theorem dX4_startAnew_12 : decode cX4_startAnew 12 = .ok (.invokevirtual 241, 3) := by decide +kernel
theorem dX4_startAnew_15 : decode cX4_startAnew 15 = .ok (.aload_n 0, 1) := by decide +kernel
theorem dX4_startAnew_16 : decode cX4_startAnew 16 = .ok (.iconst 0, 1) := by decide +kernel
theorem dX4_startAnew_17 : decode cX4_startAnew 17 = .ok (.putfield 119, 3) := by decide +kernel
theorem dX4_startAnew_20 : decode cX4_startAnew 20 = .ok (.aload_n 0, 1) := by decide +kernel
theorem dX4_startAnew_21 : decode cX4_startAnew 21 = .ok (.invokevirtual 122, 3) := by decide +kernel
theorem dX4_startAnew_24 : decode cX4_startAnew 24 = .ok (.aload_n 0, 1) := by decide +kernel
theorem dX4_startAnew_25 : decode cX4_startAnew 25 = .ok (.getfield 12, 3) := by decide +kernel
theorem dX4_startAnew_28 : decode cX4_startAnew 28 = .ok (.invokevirtual 145, 3) := by decide +kernel
theorem dX4_startAnew_31 : decode cX4_startAnew 31 = .ok (.aload_n 0, 1) := by decide +kernel
theorem dX4_startAnew_32 : decode cX4_startAnew 32 = .ok (.iconst 1, 1) := by decide +kernel
theorem dX4_startAnew_33 : decode cX4_startAnew 33 = .ok (.putfield 125, 3) := by decide +kernel
theorem dX4_startAnew_36 : decode cX4_startAnew 36 = .ok (.return_, 1) := by decide +kernel
theorem dX4_logHasRoom_0 : decode cX4_logHasRoom 0 = .ok (.aload_n 0, 1) := by decide +kernel
theorem dX4_logHasRoom_1 : decode cX4_logHasRoom 1 = .ok (.getfield 19, 3) := by decide +kernel
theorem dX4_logHasRoom_4 : decode cX4_logHasRoom 4 = .ok (.getfield 160, 3) := by decide +kernel
theorem dX4_logHasRoom_7 : decode cX4_logHasRoom 7 = .ok (.iload_n 1, 1) := by decide +kernel
theorem dX4_logHasRoom_8 : decode cX4_logHasRoom 8 = .ok (.iadd, 1) := by decide +kernel
theorem dX4_logHasRoom_9 : decode cX4_logHasRoom 9 = .ok (.sipush 24000, 3) := by decide +kernel
theorem dX4_logHasRoom_12 : decode cX4_logHasRoom 12 = .ok (.if_icmp .gt 7, 3) := by decide +kernel
theorem dX4_logHasRoom_15 : decode cX4_logHasRoom 15 = .ok (.iconst 1, 1) := by decide +kernel
theorem dX4_logHasRoom_16 : decode cX4_logHasRoom 16 = .ok (.goto 4, 3) := by decide +kernel
theorem dX4_logHasRoom_19 : decode cX4_logHasRoom 19 = .ok (.iconst 0, 1) := by decide +kernel
theorem dX4_logHasRoom_20 : decode cX4_logHasRoom 20 = .ok (.ireturn, 1) := by decide +kernel
theorem dX4_startRow_0 : decode cX4_startRow 0 = .ok (.aload_n 0, 1) := by decide +kernel
theorem dX4_startRow_1 : decode cX4_startRow 1 = .ok (.getfield 12, 3) := by decide +kernel
theorem dX4_startRow_4 : decode cX4_startRow 4 = .ok (.bipush 32, 2) := by decide +kernel
theorem dX4_startRow_6 : decode cX4_startRow 6 = .ok (.aload_n 0, 1) := by decide +kernel
theorem dX4_startRow_7 : decode cX4_startRow 7 = .ok (.getfield 19, 3) := by decide +kernel
theorem dX4_startRow_10 : decode cX4_startRow 10 = .ok (.getfield 160, 3) := by decide +kernel
theorem dX4_startRow_13 : decode cX4_startRow 13 = .ok (.iadd, 1) := by decide +kernel
theorem dX4_startRow_14 : decode cX4_startRow 14 = .ok (.invokevirtual 244, 3) := by decide +kernel
theorem dX4_startRow_17 : decode cX4_startRow 17 = .ok (.aload_n 0, 1) := by decide +kernel
theorem dX4_startRow_18 : decode cX4_startRow 18 = .ok (.getfield 12, 3) := by decide +kernel
theorem dX4_startRow_21 : decode cX4_startRow 21 = .ok (.iload_n 1, 1) := by decide +kernel
theorem dX4_startRow_22 : decode cX4_startRow 22 = .ok (.i2l, 1) := by decide +kernel
theorem dX4_startRow_23 : decode cX4_startRow 23 = .ok (.iconst 1, 1) := by decide +kernel
theorem dX4_startRow_24 : decode cX4_startRow 24 = .ok (.invokevirtual 72, 3) := by decide +kernel
theorem dX4_startRow_27 : decode cX4_startRow 27 = .ok (.aload_n 0, 1) := by decide +kernel
theorem dX4_startRow_28 : decode cX4_startRow 28 = .ok (.getfield 12, 3) := by decide +kernel
theorem dX4_startRow_31 : decode cX4_startRow 31 = .ok (.iload_n 2, 1) := by decide +kernel
theorem dX4_startRow_32 : decode cX4_startRow 32 = .ok (.i2l, 1) := by decide +kernel
theorem dX4_startRow_33 : decode cX4_startRow 33 = .ok (.iconst 2, 1) := by decide +kernel
theorem dX4_startRow_34 : decode cX4_startRow 34 = .ok (.invokevirtual 72, 3) := by decide +kernel
theorem dX4_startRow_37 : decode cX4_startRow 37 = .ok (.aload_n 0, 1) := by decide +kernel
theorem dX4_startRow_38 : decode cX4_startRow 38 = .ok (.getfield 12, 3) := by decide +kernel
theorem dX4_startRow_41 : decode cX4_startRow 41 = .ok (.iload_n 1, 1) := by decide +kernel
theorem dX4_startRow_42 : decode cX4_startRow 42 = .ok (.invokestatic 247, 3) := by decide +kernel
theorem dX4_startRow_45 : decode cX4_startRow 45 = .ok (.i2l, 1) := by decide +kernel
theorem dX4_startRow_46 : decode cX4_startRow 46 = .ok (.iconst 1, 1) := by decide +kernel
theorem dX4_startRow_47 : decode cX4_startRow 47 = .ok (.invokevirtual 72, 3) := by decide +kernel
theorem dX4_startRow_50 : decode cX4_startRow 50 = .ok (.return_, 1) := by decide +kernel
theorem dX4_endRow_0 : decode cX4_endRow 0 = .ok (.bipush 32, 2) := by decide +kernel
theorem dX4_endRow_2 : decode cX4_endRow 2 = .ok (.aload_n 0, 1) := by decide +kernel
theorem dX4_endRow_3 : decode cX4_endRow 3 = .ok (.getfield 19, 3) := by decide +kernel
theorem dX4_endRow_6 : decode cX4_endRow 6 = .ok (.getfield 160, 3) := by decide +kernel
theorem dX4_endRow_9 : decode cX4_endRow 9 = .ok (.iadd, 1) := by decide +kernel
theorem dX4_endRow_10 : decode cX4_endRow 10 = .ok (.istore_n 1, 1) := by decide +kernel
theorem dX4_endRow_11 : decode cX4_endRow 11 = .ok (.aload_n 0, 1) := by decide +kernel
theorem dX4_endRow_12 : decode cX4_endRow 12 = .ok (.getfield 12, 3) := by decide +kernel
theorem dX4_endRow_15 : decode cX4_endRow 15 = .ok (.aload_n 0, 1) := by decide +kernel
theorem dX4_endRow_16 : decode cX4_endRow 16 = .ok (.getfield 12, 3) := by decide +kernel
theorem dX4_endRow_19 : decode cX4_endRow 19 = .ok (.iload_n 1, 1) := by decide +kernel
theorem dX4_endRow_20 : decode cX4_endRow 20 = .ok (.aload_n 0, 1) := by decide +kernel
theorem dX4_endRow_21 : decode cX4_endRow 21 = .ok (.getfield 12, 3) := by decide +kernel
theorem dX4_endRow_24 : decode cX4_endRow 24 = .ok (.getfield 250, 3) := by decide +kernel
theorem dX4_endRow_27 : decode cX4_endRow 27 = .ok (.iload_n 1, 1) := by decide +kernel
theorem dX4_endRow_28 : decode cX4_endRow 28 = .ok (.i2l, 1) := by decide +kernel
theorem dX4_endRow_29 : decode cX4_endRow 29 = .ok (.invokevirtual 253, 3) := by decide +kernel
theorem dX4_endRow_32 : decode cX4_endRow 32 = .ok (.bipush 8, 2) := by decide +kernel
theorem dX4_endRow_34 : decode cX4_endRow 34 = .ok (.invokevirtual 72, 3) := by decide +kernel
theorem dX4_endRow_37 : decode cX4_endRow 37 = .ok (.aload_n 0, 1) := by decide +kernel
theorem dX4_endRow_38 : decode cX4_endRow 38 = .ok (.getfield 19, 3) := by decide +kernel
theorem dX4_endRow_41 : decode cX4_endRow 41 = .ok (.aload_n 0, 1) := by decide +kernel
theorem dX4_endRow_42 : decode cX4_endRow 42 = .ok (.getfield 12, 3) := by decide +kernel
theorem dX4_endRow_45 : decode cX4_endRow 45 = .ok (.iload_n 1, 1) := by decide +kernel
theorem dX4_endRow_46 : decode cX4_endRow 46 = .ok (.invokevirtual 257, 3) := by decide +kernel
theorem dX4_endRow_49 : decode cX4_endRow 49 = .ok (.return_, 1) := by decide +kernel
theorem dX4_writeChunk_0 : decode cX4_writeChunk 0 = .ok (.aload_n 0, 1) := by decide +kernel
theorem dX4_writeChunk_1 : decode cX4_writeChunk 1 = .ok (.iconst 1, 1) := by decide +kernel
theorem dX4_writeChunk_2 : decode cX4_writeChunk 2 = .ok (.iload_n 2, 1) := by decide +kernel
theorem dX4_writeChunk_3 : decode cX4_writeChunk 3 = .ok (.invokevirtual 68, 3) := by decide +kernel
theorem dX4_writeChunk_6 : decode cX4_writeChunk 6 = .ok (.iconst 0, 1) := by decide +kernel
theorem dX4_writeChunk_7 : decode cX4_writeChunk 7 = .ok (.istore_n 3, 1) := by decide +kernel
theorem dX4_writeChunk_8 : decode cX4_writeChunk 8 = .ok (.iload_n 3, 1) := by decide +kernel
theorem dX4_writeChunk_9 : decode cX4_writeChunk 9 = .ok (.bipush 8, 2) := by decide +kernel
theorem dX4_writeChunk_11 : decode cX4_writeChunk 11 = .ok (.if_icmp .ge 31, 3) := by decide +kernel
theorem dX4_writeChunk_14 : decode cX4_writeChunk 14 = .ok (.aload_n 0, 1) := by decide +kernel
theorem dX4_writeChunk_15 : decode cX4_writeChunk 15 = .ok (.getfield 12, 3) := by decide +kernel
theorem dX4_writeChunk_18 : decode cX4_writeChunk 18 = .ok (.aload_n 0, 1) := by decide +kernel
theorem dX4_writeChunk_19 : decode cX4_writeChunk 19 = .ok (.getfield 19, 3) := by decide +kernel
theorem dX4_writeChunk_22 : decode cX4_writeChunk 22 = .ok (.iload_n 1, 1) := by decide +kernel
theorem dX4_writeChunk_23 : decode cX4_writeChunk 23 = .ok (.bipush 8, 2) := by decide +kernel
theorem dX4_writeChunk_25 : decode cX4_writeChunk 25 = .ok (.imul, 1) := by decide +kernel
theorem dX4_writeChunk_26 : decode cX4_writeChunk 26 = .ok (.iload_n 3, 1) := by decide +kernel
theorem dX4_writeChunk_27 : decode cX4_writeChunk 27 = .ok (.iadd, 1) := by decide +kernel
theorem dX4_writeChunk_28 : decode cX4_writeChunk 28 = .ok (.invokevirtual 261, 3) := by decide +kernel
theorem dX4_writeChunk_31 : decode cX4_writeChunk 31 = .ok (.bipush 8, 2) := by decide +kernel
theorem dX4_writeChunk_33 : decode cX4_writeChunk 33 = .ok (.invokevirtual 72, 3) := by decide +kernel
theorem dX4_writeChunk_36 : decode cX4_writeChunk 36 = .ok (.iinc 3 1, 3) := by decide +kernel
theorem dX4_writeChunk_39 : decode cX4_writeChunk 39 = .ok (.goto (-31), 3) := by decide +kernel
theorem dX4_writeChunk_42 : decode cX4_writeChunk 42 = .ok (.aload_n 0, 1) := by decide +kernel
theorem dX4_writeChunk_43 : decode cX4_writeChunk 43 = .ok (.invokevirtual 76, 3) := by decide +kernel
theorem dX4_writeChunk_46 : decode cX4_writeChunk 46 = .ok (.return_, 1) := by decide +kernel
theorem dX4_writeHead_0 : decode cX4_writeHead 0 = .ok (.aload_n 0, 1) := by decide +kernel
theorem dX4_writeHead_1 : decode cX4_writeHead 1 = .ok (.getfield 119, 3) := by decide +kernel
theorem dX4_writeHead_4 : decode cX4_writeHead 4 = .ok (.iconst 1, 1) := by decide +kernel
theorem dX4_writeHead_5 : decode cX4_writeHead 5 = .ok (.iand, 1) := by decide +kernel
theorem dX4_writeHead_6 : decode cX4_writeHead 6 = .ok (.iconst 1, 1) := by decide +kernel
theorem dX4_writeHead_7 : decode cX4_writeHead 7 = .ok (.if_icmp .ne 8, 3) := by decide +kernel
theorem dX4_writeHead_10 : decode cX4_writeHead 10 = .ok (.bipush 16, 2) := by decide +kernel
theorem dX4_writeHead_12 : decode cX4_writeHead 12 = .ok (.goto 4, 3) := by decide +kernel
theorem dX4_writeHead_15 : decode cX4_writeHead 15 = .ok (.iconst 0, 1) := by decide +kernel
theorem dX4_writeHead_16 : decode cX4_writeHead 16 = .ok (.istore_n 1, 1) := by decide +kernel
theorem dX4_writeHead_17 : decode cX4_writeHead 17 = .ok (.aload_n 0, 1) := by decide +kernel
theorem dX4_writeHead_18 : decode cX4_writeHead 18 = .ok (.getfield 12, 3) := by decide +kernel
theorem dX4_writeHead_21 : decode cX4_writeHead 21 = .ok (.iload_n 1, 1) := by decide +kernel
theorem dX4_writeHead_22 : decode cX4_writeHead 22 = .ok (.invokevirtual 244, 3) := by decide +kernel
theorem dX4_writeHead_25 : decode cX4_writeHead 25 = .ok (.aload_n 0, 1) := by decide +kernel
theorem dX4_writeHead_26 : decode cX4_writeHead 26 = .ok (.getfield 12, 3) := by decide +kernel
theorem dX4_writeHead_29 : decode cX4_writeHead 29 = .ok (.aload_n 0, 1) := by decide +kernel
theorem dX4_writeHead_30 : decode cX4_writeHead 30 = .ok (.getfield 119, 3) := by decide +kernel
theorem dX4_writeHead_33 : decode cX4_writeHead 33 = .ok (.i2l, 1) := by decide +kernel
theorem dX4_writeHead_34 : decode cX4_writeHead 34 = .ok (.iconst 4, 1) := by decide +kernel
theorem dX4_writeHead_35 : decode cX4_writeHead 35 = .ok (.invokevirtual 72, 3) := by decide +kernel
theorem dX4_writeHead_38 : decode cX4_writeHead 38 = .ok (.aload_n 0, 1) := by decide +kernel
theorem dX4_writeHead_39 : decode cX4_writeHead 39 = .ok (.getfield 12, 3) := by decide +kernel
theorem dX4_writeHead_42 : decode cX4_writeHead 42 = .ok (.aload_n 0, 1) := by decide +kernel
theorem dX4_writeHead_43 : decode cX4_writeHead 43 = .ok (.getfield 19, 3) := by decide +kernel
theorem dX4_writeHead_46 : decode cX4_writeHead 46 = .ok (.getfield 160, 3) := by decide +kernel
theorem dX4_writeHead_49 : decode cX4_writeHead 49 = .ok (.i2l, 1) := by decide +kernel
theorem dX4_writeHead_50 : decode cX4_writeHead 50 = .ok (.iconst 4, 1) := by decide +kernel
theorem dX4_writeHead_51 : decode cX4_writeHead 51 = .ok (.invokevirtual 72, 3) := by decide +kernel
theorem dX4_writeHead_54 : decode cX4_writeHead 54 = .ok (.aload_n 0, 1) := by decide +kernel
theorem dX4_writeHead_55 : decode cX4_writeHead 55 = .ok (.getfield 12, 3) := by decide +kernel
theorem dX4_writeHead_58 : decode cX4_writeHead 58 = .ok (.aload_n 0, 1) := by decide +kernel
theorem dX4_writeHead_59 : decode cX4_writeHead 59 = .ok (.getfield 12, 3) := by decide +kernel
theorem dX4_writeHead_62 : decode cX4_writeHead 62 = .ok (.iload_n 1, 1) := by decide +kernel
theorem dX4_writeHead_63 : decode cX4_writeHead 63 = .ok (.aload_n 0, 1) := by decide +kernel
theorem dX4_writeHead_64 : decode cX4_writeHead 64 = .ok (.getfield 12, 3) := by decide +kernel
theorem dX4_writeHead_67 : decode cX4_writeHead 67 = .ok (.getfield 250, 3) := by decide +kernel
theorem dX4_writeHead_70 : decode cX4_writeHead 70 = .ok (.lconst 1, 1) := by decide +kernel
theorem dX4_writeHead_71 : decode cX4_writeHead 71 = .ok (.invokevirtual 253, 3) := by decide +kernel
theorem dX4_writeHead_74 : decode cX4_writeHead 74 = .ok (.bipush 8, 2) := by decide +kernel
theorem dX4_writeHead_76 : decode cX4_writeHead 76 = .ok (.invokevirtual 72, 3) := by decide +kernel
theorem dX4_writeHead_79 : decode cX4_writeHead 79 = .ok (.return_, 1) := by decide +kernel
theorem dX4_headToTake_0 : decode cX4_headToTake 0 = .ok (.aload_n 0, 1) := by decide +kernel
theorem dX4_headToTake_1 : decode cX4_headToTake 1 = .ok (.iconst 0, 1) := by decide +kernel
theorem dX4_headToTake_2 : decode cX4_headToTake 2 = .ok (.invokevirtual 264, 3) := by decide +kernel
theorem dX4_headToTake_5 : decode cX4_headToTake 5 = .ok (.istore_n 1, 1) := by decide +kernel
theorem dX4_headToTake_6 : decode cX4_headToTake 6 = .ok (.aload_n 0, 1) := by decide +kernel
theorem dX4_headToTake_7 : decode cX4_headToTake 7 = .ok (.bipush 16, 2) := by decide +kernel
theorem dX4_headToTake_9 : decode cX4_headToTake 9 = .ok (.invokevirtual 264, 3) := by decide +kernel
theorem dX4_headToTake_12 : decode cX4_headToTake 12 = .ok (.istore_n 2, 1) := by decide +kernel
theorem dX4_headToTake_13 : decode cX4_headToTake 13 = .ok (.iload_n 1, 1) := by decide +kernel
theorem dX4_headToTake_14 : decode cX4_headToTake 14 = .ok (.ifCond .eq 37, 3) := by decide +kernel
theorem dX4_headToTake_17 : decode cX4_headToTake 17 = .ok (.iload_n 2, 1) := by decide +kernel
theorem dX4_headToTake_18 : decode cX4_headToTake 18 = .ok (.ifCond .eq 33, 3) := by decide +kernel
theorem dX4_headToTake_21 : decode cX4_headToTake 21 = .ok (.aload_n 0, 1) := by decide +kernel
theorem dX4_headToTake_22 : decode cX4_headToTake 22 = .ok (.getfield 12, 3) := by decide +kernel
theorem dX4_headToTake_25 : decode cX4_headToTake 25 = .ok (.bipush 16, 2) := by decide +kernel
theorem dX4_headToTake_27 : decode cX4_headToTake 27 = .ok (.iconst 4, 1) := by decide +kernel
theorem dX4_headToTake_28 : decode cX4_headToTake 28 = .ok (.invokevirtual 135, 3) := by decide +kernel
theorem dX4_headToTake_31 : decode cX4_headToTake 31 = .ok (.aload_n 0, 1) := by decide +kernel
theorem dX4_headToTake_32 : decode cX4_headToTake 32 = .ok (.getfield 12, 3) := by decide +kernel
theorem dX4_headToTake_35 : decode cX4_headToTake 35 = .ok (.iconst 0, 1) := by decide +kernel
theorem dX4_headToTake_36 : decode cX4_headToTake 36 = .ok (.iconst 4, 1) := by decide +kernel
theorem dX4_headToTake_37 : decode cX4_headToTake 37 = .ok (.invokevirtual 135, 3) := by decide +kernel
theorem dX4_headToTake_40 : decode cX4_headToTake 40 = .ok (.lcmp, 1) := by decide +kernel
theorem dX4_headToTake_41 : decode cX4_headToTake 41 = .ok (.ifCond .le 8, 3) := by decide +kernel
theorem dX4_headToTake_44 : decode cX4_headToTake 44 = .ok (.bipush 16, 2) := by decide +kernel
theorem dX4_headToTake_46 : decode cX4_headToTake 46 = .ok (.goto 4, 3) := by decide +kernel
theorem dX4_headToTake_49 : decode cX4_headToTake 49 = .ok (.iconst 0, 1) := by decide +kernel
theorem dX4_headToTake_50 : decode cX4_headToTake 50 = .ok (.ireturn, 1) := by decide +kernel
theorem dX4_headToTake_51 : decode cX4_headToTake 51 = .ok (.iload_n 1, 1) := by decide +kernel
theorem dX4_headToTake_52 : decode cX4_headToTake 52 = .ok (.ifCond .eq 5, 3) := by decide +kernel
theorem dX4_headToTake_55 : decode cX4_headToTake 55 = .ok (.iconst 0, 1) := by decide +kernel
theorem dX4_headToTake_56 : decode cX4_headToTake 56 = .ok (.ireturn, 1) := by decide +kernel
theorem dX4_headToTake_57 : decode cX4_headToTake 57 = .ok (.iload_n 2, 1) := by decide +kernel
theorem dX4_headToTake_58 : decode cX4_headToTake 58 = .ok (.ifCond .eq 8, 3) := by decide +kernel
theorem dX4_headToTake_61 : decode cX4_headToTake 61 = .ok (.bipush 16, 2) := by decide +kernel
theorem dX4_headToTake_63 : decode cX4_headToTake 63 = .ok (.goto 4, 3) := by decide +kernel
theorem dX4_headToTake_66 : decode cX4_headToTake 66 = .ok (.iconst (-1), 1) := by decide +kernel
theorem dX4_headToTake_67 : decode cX4_headToTake 67 = .ok (.ireturn, 1) := by decide +kernel
theorem dX4_isHeadRight_0 : decode cX4_isHeadRight 0 = .ok (.iload_n 1, 1) := by decide +kernel
theorem dX4_isHeadRight_1 : decode cX4_isHeadRight 1 = .ok (.bipush 16, 2) := by decide +kernel
theorem dX4_isHeadRight_3 : decode cX4_isHeadRight 3 = .ok (.iadd, 1) := by decide +kernel
theorem dX4_isHeadRight_4 : decode cX4_isHeadRight 4 = .ok (.bipush 8, 2) := by decide +kernel
theorem dX4_isHeadRight_6 : decode cX4_isHeadRight 6 = .ok (.isub, 1) := by decide +kernel
theorem dX4_isHeadRight_7 : decode cX4_isHeadRight 7 = .ok (.istore_n 2, 1) := by decide +kernel
theorem dX4_isHeadRight_8 : decode cX4_isHeadRight 8 = .ok (.aload_n 0, 1) := by decide +kernel
theorem dX4_isHeadRight_9 : decode cX4_isHeadRight 9 = .ok (.getfield 12, 3) := by decide +kernel
theorem dX4_isHeadRight_12 : decode cX4_isHeadRight 12 = .ok (.iload_n 1, 1) := by decide +kernel
theorem dX4_isHeadRight_13 : decode cX4_isHeadRight 13 = .ok (.iload_n 2, 1) := by decide +kernel
theorem dX4_isHeadRight_14 : decode cX4_isHeadRight 14 = .ok (.lconst 1, 1) := by decide +kernel
theorem dX4_isHeadRight_15 : decode cX4_isHeadRight 15 = .ok (.invokevirtual 253, 3) := by decide +kernel
theorem dX4_isHeadRight_18 : decode cX4_isHeadRight 18 = .ok (.aload_n 0, 1) := by decide +kernel
theorem dX4_isHeadRight_19 : decode cX4_isHeadRight 19 = .ok (.getfield 12, 3) := by decide +kernel
theorem dX4_isHeadRight_22 : decode cX4_isHeadRight 22 = .ok (.iload_n 2, 1) := by decide +kernel
theorem dX4_isHeadRight_23 : decode cX4_isHeadRight 23 = .ok (.bipush 8, 2) := by decide +kernel
theorem dX4_isHeadRight_25 : decode cX4_isHeadRight 25 = .ok (.invokevirtual 135, 3) := by decide +kernel
theorem dX4_isHeadRight_28 : decode cX4_isHeadRight 28 = .ok (.lcmp, 1) := by decide +kernel
theorem dX4_isHeadRight_29 : decode cX4_isHeadRight 29 = .ok (.ifCond .ne 25, 3) := by decide +kernel
theorem dX4_isHeadRight_32 : decode cX4_isHeadRight 32 = .ok (.aload_n 0, 1) := by decide +kernel
theorem dX4_isHeadRight_33 : decode cX4_isHeadRight 33 = .ok (.getfield 12, 3) := by decide +kernel
theorem dX4_isHeadRight_36 : decode cX4_isHeadRight 36 = .ok (.iload_n 1, 1) := by decide +kernel
theorem dX4_isHeadRight_37 : decode cX4_isHeadRight 37 = .ok (.iconst 4, 1) := by decide +kernel
theorem dX4_isHeadRight_38 : decode cX4_isHeadRight 38 = .ok (.iadd, 1) := by decide +kernel
theorem dX4_isHeadRight_39 : decode cX4_isHeadRight 39 = .ok (.iconst 4, 1) := by decide +kernel
theorem dX4_isHeadRight_40 : decode cX4_isHeadRight 40 = .ok (.invokevirtual 135, 3) := by decide +kernel
theorem dX4_isHeadRight_43 : decode cX4_isHeadRight 43 = .ok (.ldc2_w 267, 3) := by decide +kernel
theorem dX4_isHeadRight_46 : decode cX4_isHeadRight 46 = .ok (.lcmp, 1) := by decide +kernel
theorem dX4_isHeadRight_47 : decode cX4_isHeadRight 47 = .ok (.ifCond .gt 7, 3) := by decide +kernel
theorem dX4_isHeadRight_50 : decode cX4_isHeadRight 50 = .ok (.iconst 1, 1) := by decide +kernel
theorem dX4_isHeadRight_51 : decode cX4_isHeadRight 51 = .ok (.goto 4, 3) := by decide +kernel
theorem dX4_isHeadRight_54 : decode cX4_isHeadRight 54 = .ok (.iconst 0, 1) := by decide +kernel
theorem dX4_isHeadRight_55 : decode cX4_isHeadRight 55 = .ok (.ireturn, 1) := by decide +kernel
theorem dX4_reachedFrom_0 : decode cX4_reachedFrom 0 = .ok (.lconst 1, 1) := by decide +kernel
theorem dX4_reachedFrom_1 : decode cX4_reachedFrom 1 = .ok (.iload_n 2, 1) := by decide +kernel
theorem dX4_reachedFrom_2 : decode cX4_reachedFrom 2 = .ok (.lshl, 1) := by decide +kernel
theorem dX4_reachedFrom_3 : decode cX4_reachedFrom 3 = .ok (.lstore_n 3, 1) := by decide +kernel
theorem dX4_reachedFrom_4 : decode cX4_reachedFrom 4 = .ok (.lload_n 3, 1) := by decide +kernel
theorem dX4_reachedFrom_5 : decode cX4_reachedFrom 5 = .ok (.lstore 5, 2) := by decide +kernel
theorem dX4_reachedFrom_7 : decode cX4_reachedFrom 7 = .ok (.iconst 0, 1) := by decide +kernel
theorem dX4_reachedFrom_8 : decode cX4_reachedFrom 8 = .ok (.istore 7, 2) := by decide +kernel
theorem dX4_reachedFrom_10 : decode cX4_reachedFrom 10 = .ok (.iload 7, 2) := by decide +kernel
theorem dX4_reachedFrom_12 : decode cX4_reachedFrom 12 = .ok (.bipush 64, 2) := by decide +kernel
theorem dX4_reachedFrom_14 : decode cX4_reachedFrom 14 = .ok (.if_icmp .ge 36, 3) := by decide +kernel
theorem dX4_reachedFrom_17 : decode cX4_reachedFrom 17 = .ok (.lload 5, 2) := by decide +kernel
theorem dX4_reachedFrom_19 : decode cX4_reachedFrom 19 = .ok (.lconst 0, 1) := by decide +kernel
theorem dX4_reachedFrom_20 : decode cX4_reachedFrom 20 = .ok (.lcmp, 1) := by decide +kernel
theorem dX4_reachedFrom_21 : decode cX4_reachedFrom 21 = .ok (.ifCond .eq 29, 3) := by decide +kernel
theorem dX4_reachedFrom_24 : decode cX4_reachedFrom 24 = .ok (.aload_n 0, 1) := by decide +kernel
theorem dX4_reachedFrom_25 : decode cX4_reachedFrom 25 = .ok (.iload_n 1, 1) := by decide +kernel
theorem dX4_reachedFrom_26 : decode cX4_reachedFrom 26 = .ok (.lload 5, 2) := by decide +kernel
theorem dX4_reachedFrom_28 : decode cX4_reachedFrom 28 = .ok (.invokevirtual 195, 3) := by decide +kernel
theorem dX4_reachedFrom_31 : decode cX4_reachedFrom 31 = .ok (.lload_n 3, 1) := by decide +kernel
theorem dX4_reachedFrom_32 : decode cX4_reachedFrom 32 = .ok (.ldc2_w 199, 3) := by decide +kernel
theorem dX4_reachedFrom_35 : decode cX4_reachedFrom 35 = .ok (.lxor, 1) := by decide +kernel
theorem dX4_reachedFrom_36 : decode cX4_reachedFrom 36 = .ok (.land, 1) := by decide +kernel
theorem dX4_reachedFrom_37 : decode cX4_reachedFrom 37 = .ok (.lstore 5, 2) := by decide +kernel
theorem dX4_reachedFrom_39 : decode cX4_reachedFrom 39 = .ok (.lload_n 3, 1) := by decide +kernel
theorem dX4_reachedFrom_40 : decode cX4_reachedFrom 40 = .ok (.lload 5, 2) := by decide +kernel
theorem dX4_reachedFrom_42 : decode cX4_reachedFrom 42 = .ok (.lor, 1) := by decide +kernel
theorem dX4_reachedFrom_43 : decode cX4_reachedFrom 43 = .ok (.lstore_n 3, 1) := by decide +kernel
theorem dX4_reachedFrom_44 : decode cX4_reachedFrom 44 = .ok (.iinc 7 1, 3) := by decide +kernel
theorem dX4_reachedFrom_47 : decode cX4_reachedFrom 47 = .ok (.goto (-37), 3) := by decide +kernel
theorem dX4_reachedFrom_50 : decode cX4_reachedFrom 50 = .ok (.lload_n 3, 1) := by decide +kernel
theorem dX4_reachedFrom_51 : decode cX4_reachedFrom 51 = .ok (.lreturn, 1) := by decide +kernel
theorem dX4_oneEdgeOn_0 : decode cX4_oneEdgeOn 0 = .ok (.lconst 0, 1) := by decide +kernel
theorem dX4_oneEdgeOn_1 : decode cX4_oneEdgeOn 1 = .ok (.lstore 4, 2) := by decide +kernel
theorem dX4_oneEdgeOn_3 : decode cX4_oneEdgeOn 3 = .ok (.iconst 0, 1) := by decide +kernel
theorem dX4_oneEdgeOn_4 : decode cX4_oneEdgeOn 4 = .ok (.istore 6, 2) := by decide +kernel
theorem dX4_oneEdgeOn_6 : decode cX4_oneEdgeOn 6 = .ok (.iload 6, 2) := by decide +kernel
theorem dX4_oneEdgeOn_8 : decode cX4_oneEdgeOn 8 = .ok (.bipush 64, 2) := by decide +kernel
theorem dX4_oneEdgeOn_10 : decode cX4_oneEdgeOn 10 = .ok (.if_icmp .ge 35, 3) := by decide +kernel
theorem dX4_oneEdgeOn_13 : decode cX4_oneEdgeOn 13 = .ok (.lload_n 2, 1) := by decide +kernel
theorem dX4_oneEdgeOn_14 : decode cX4_oneEdgeOn 14 = .ok (.iload 6, 2) := by decide +kernel
theorem dX4_oneEdgeOn_16 : decode cX4_oneEdgeOn 16 = .ok (.lushr, 1) := by decide +kernel
theorem dX4_oneEdgeOn_17 : decode cX4_oneEdgeOn 17 = .ok (.lconst 1, 1) := by decide +kernel
theorem dX4_oneEdgeOn_18 : decode cX4_oneEdgeOn 18 = .ok (.land, 1) := by decide +kernel
theorem dX4_oneEdgeOn_19 : decode cX4_oneEdgeOn 19 = .ok (.lconst 0, 1) := by decide +kernel
theorem dX4_oneEdgeOn_20 : decode cX4_oneEdgeOn 20 = .ok (.lcmp, 1) := by decide +kernel
theorem dX4_oneEdgeOn_21 : decode cX4_oneEdgeOn 21 = .ok (.ifCond .eq 18, 3) := by decide +kernel
theorem dX4_oneEdgeOn_24 : decode cX4_oneEdgeOn 24 = .ok (.lload 4, 2) := by decide +kernel
theorem dX4_oneEdgeOn_26 : decode cX4_oneEdgeOn 26 = .ok (.aload_n 0, 1) := by decide +kernel
theorem dX4_oneEdgeOn_27 : decode cX4_oneEdgeOn 27 = .ok (.getfield 19, 3) := by decide +kernel
theorem dX4_oneEdgeOn_30 : decode cX4_oneEdgeOn 30 = .ok (.iload_n 1, 1) := by decide +kernel
theorem dX4_oneEdgeOn_31 : decode cX4_oneEdgeOn 31 = .ok (.iload 6, 2) := by decide +kernel
theorem dX4_oneEdgeOn_33 : decode cX4_oneEdgeOn 33 = .ok (.invokevirtual 186, 3) := by decide +kernel
theorem dX4_oneEdgeOn_36 : decode cX4_oneEdgeOn 36 = .ok (.lor, 1) := by decide +kernel
theorem dX4_oneEdgeOn_37 : decode cX4_oneEdgeOn 37 = .ok (.lstore 4, 2) := by decide +kernel
theorem dX4_oneEdgeOn_39 : decode cX4_oneEdgeOn 39 = .ok (.iinc 6 1, 3) := by decide +kernel
theorem dX4_oneEdgeOn_42 : decode cX4_oneEdgeOn 42 = .ok (.goto (-36), 3) := by decide +kernel
theorem dX4_oneEdgeOn_45 : decode cX4_oneEdgeOn 45 = .ok (.lload 4, 2) := by decide +kernel
theorem dX4_oneEdgeOn_47 : decode cX4_oneEdgeOn 47 = .ok (.lreturn, 1) := by decide +kernel
theorem dX4_sizeOf_0 : decode cX4_sizeOf 0 = .ok (.iload_n 0, 1) := by decide +kernel
theorem dX4_sizeOf_1 : decode cX4_sizeOf 1 = .ok (.tableswitch 48 1 5 #[35, 38, 40, 43, 46], 35) := by decide +kernel
theorem dX4_sizeOf_36 : decode cX4_sizeOf 36 = .ok (.bipush 64, 2) := by decide +kernel
theorem dX4_sizeOf_38 : decode cX4_sizeOf 38 = .ok (.ireturn, 1) := by decide +kernel
theorem dX4_sizeOf_39 : decode cX4_sizeOf 39 = .ok (.iconst 3, 1) := by decide +kernel
theorem dX4_sizeOf_40 : decode cX4_sizeOf 40 = .ok (.ireturn, 1) := by decide +kernel
theorem dX4_sizeOf_41 : decode cX4_sizeOf 41 = .ok (.bipush 16, 2) := by decide +kernel
theorem dX4_sizeOf_43 : decode cX4_sizeOf 43 = .ok (.ireturn, 1) := by decide +kernel
theorem dX4_sizeOf_44 : decode cX4_sizeOf 44 = .ok (.bipush 10, 2) := by decide +kernel
theorem dX4_sizeOf_46 : decode cX4_sizeOf 46 = .ok (.ireturn, 1) := by decide +kernel
theorem dX4_sizeOf_47 : decode cX4_sizeOf 47 = .ok (.iconst 0, 1) := by decide +kernel
theorem dX4_sizeOf_48 : decode cX4_sizeOf 48 = .ok (.ireturn, 1) := by decide +kernel
theorem dX4_sizeOf_49 : decode cX4_sizeOf 49 = .ok (.iconst (-1), 1) := by decide +kernel
theorem dX4_sizeOf_50 : decode cX4_sizeOf 50 = .ok (.ireturn, 1) := by decide +kernel
theorem dJ13_bitCount_95d88_0 : decode cJ13_bitCount_95d88 0 = .ok (.lload_n 0, 1) := by decide +kernel
theorem dJ13_bitCount_95d88_1 : decode cJ13_bitCount_95d88 1 = .ok (.lload_n 0, 1) := by decide +kernel
theorem dJ13_bitCount_95d88_2 : decode cJ13_bitCount_95d88 2 = .ok (.iconst 1, 1) := by decide +kernel
theorem dJ13_bitCount_95d88_3 : decode cJ13_bitCount_95d88 3 = .ok (.lushr, 1) := by decide +kernel
theorem dJ13_bitCount_95d88_4 : decode cJ13_bitCount_95d88 4 = .ok (.ldc2_w 314, 3) := by decide +kernel
theorem dJ13_bitCount_95d88_7 : decode cJ13_bitCount_95d88 7 = .ok (.land, 1) := by decide +kernel
theorem dJ13_bitCount_95d88_8 : decode cJ13_bitCount_95d88 8 = .ok (.lsub, 1) := by decide +kernel
theorem dJ13_bitCount_95d88_9 : decode cJ13_bitCount_95d88 9 = .ok (.lstore_n 0, 1) := by decide +kernel
theorem dJ13_bitCount_95d88_10 : decode cJ13_bitCount_95d88 10 = .ok (.lload_n 0, 1) := by decide +kernel
theorem dJ13_bitCount_95d88_11 : decode cJ13_bitCount_95d88 11 = .ok (.ldc2_w 316, 3) := by decide +kernel
theorem dJ13_bitCount_95d88_14 : decode cJ13_bitCount_95d88 14 = .ok (.land, 1) := by decide +kernel
theorem dJ13_bitCount_95d88_15 : decode cJ13_bitCount_95d88 15 = .ok (.lload_n 0, 1) := by decide +kernel
theorem dJ13_bitCount_95d88_16 : decode cJ13_bitCount_95d88 16 = .ok (.iconst 2, 1) := by decide +kernel
theorem dJ13_bitCount_95d88_17 : decode cJ13_bitCount_95d88 17 = .ok (.lushr, 1) := by decide +kernel
theorem dJ13_bitCount_95d88_18 : decode cJ13_bitCount_95d88 18 = .ok (.ldc2_w 316, 3) := by decide +kernel
theorem dJ13_bitCount_95d88_21 : decode cJ13_bitCount_95d88 21 = .ok (.land, 1) := by decide +kernel
theorem dJ13_bitCount_95d88_22 : decode cJ13_bitCount_95d88 22 = .ok (.ladd, 1) := by decide +kernel
theorem dJ13_bitCount_95d88_23 : decode cJ13_bitCount_95d88 23 = .ok (.lstore_n 0, 1) := by decide +kernel
theorem dJ13_bitCount_95d88_24 : decode cJ13_bitCount_95d88 24 = .ok (.lload_n 0, 1) := by decide +kernel
theorem dJ13_bitCount_95d88_25 : decode cJ13_bitCount_95d88 25 = .ok (.lload_n 0, 1) := by decide +kernel
theorem dJ13_bitCount_95d88_26 : decode cJ13_bitCount_95d88 26 = .ok (.iconst 4, 1) := by decide +kernel
theorem dJ13_bitCount_95d88_27 : decode cJ13_bitCount_95d88 27 = .ok (.lushr, 1) := by decide +kernel
theorem dJ13_bitCount_95d88_28 : decode cJ13_bitCount_95d88 28 = .ok (.ladd, 1) := by decide +kernel
theorem dJ13_bitCount_95d88_29 : decode cJ13_bitCount_95d88 29 = .ok (.ldc2_w 318, 3) := by decide +kernel
theorem dJ13_bitCount_95d88_32 : decode cJ13_bitCount_95d88 32 = .ok (.land, 1) := by decide +kernel
theorem dJ13_bitCount_95d88_33 : decode cJ13_bitCount_95d88 33 = .ok (.lstore_n 0, 1) := by decide +kernel
theorem dJ13_bitCount_95d88_34 : decode cJ13_bitCount_95d88 34 = .ok (.lload_n 0, 1) := by decide +kernel
theorem dJ13_bitCount_95d88_35 : decode cJ13_bitCount_95d88 35 = .ok (.lload_n 0, 1) := by decide +kernel
theorem dJ13_bitCount_95d88_36 : decode cJ13_bitCount_95d88 36 = .ok (.bipush 8, 2) := by decide +kernel
theorem dJ13_bitCount_95d88_38 : decode cJ13_bitCount_95d88 38 = .ok (.lushr, 1) := by decide +kernel
theorem dJ13_bitCount_95d88_39 : decode cJ13_bitCount_95d88 39 = .ok (.ladd, 1) := by decide +kernel
theorem dJ13_bitCount_95d88_40 : decode cJ13_bitCount_95d88 40 = .ok (.lstore_n 0, 1) := by decide +kernel
theorem dJ13_bitCount_95d88_41 : decode cJ13_bitCount_95d88 41 = .ok (.lload_n 0, 1) := by decide +kernel
theorem dJ13_bitCount_95d88_42 : decode cJ13_bitCount_95d88 42 = .ok (.lload_n 0, 1) := by decide +kernel
theorem dJ13_bitCount_95d88_43 : decode cJ13_bitCount_95d88 43 = .ok (.bipush 16, 2) := by decide +kernel
theorem dJ13_bitCount_95d88_45 : decode cJ13_bitCount_95d88 45 = .ok (.lushr, 1) := by decide +kernel
theorem dJ13_bitCount_95d88_46 : decode cJ13_bitCount_95d88 46 = .ok (.ladd, 1) := by decide +kernel
theorem dJ13_bitCount_95d88_47 : decode cJ13_bitCount_95d88 47 = .ok (.lstore_n 0, 1) := by decide +kernel
theorem dJ13_bitCount_95d88_48 : decode cJ13_bitCount_95d88 48 = .ok (.lload_n 0, 1) := by decide +kernel
theorem dJ13_bitCount_95d88_49 : decode cJ13_bitCount_95d88 49 = .ok (.lload_n 0, 1) := by decide +kernel
theorem dJ13_bitCount_95d88_50 : decode cJ13_bitCount_95d88 50 = .ok (.bipush 32, 2) := by decide +kernel
theorem dJ13_bitCount_95d88_52 : decode cJ13_bitCount_95d88 52 = .ok (.lushr, 1) := by decide +kernel
theorem dJ13_bitCount_95d88_53 : decode cJ13_bitCount_95d88 53 = .ok (.ladd, 1) := by decide +kernel
theorem dJ13_bitCount_95d88_54 : decode cJ13_bitCount_95d88 54 = .ok (.lstore_n 0, 1) := by decide +kernel
theorem dJ13_bitCount_95d88_55 : decode cJ13_bitCount_95d88 55 = .ok (.lload_n 0, 1) := by decide +kernel
theorem dJ13_bitCount_95d88_56 : decode cJ13_bitCount_95d88 56 = .ok (.l2i, 1) := by decide +kernel
theorem dJ13_bitCount_95d88_57 : decode cJ13_bitCount_95d88 57 = .ok (.bipush 127, 2) := by decide +kernel
theorem dJ13_bitCount_95d88_59 : decode cJ13_bitCount_95d88 59 = .ok (.iand, 1) := by decide +kernel
theorem dJ13_bitCount_95d88_60 : decode cJ13_bitCount_95d88 60 = .ok (.ireturn, 1) := by decide +kernel
theorem dJ9_max_7cf53_0 : decode cJ9_max_7cf53 0 = .ok (.iload_n 0, 1) := by decide +kernel
theorem dJ9_max_7cf53_1 : decode cJ9_max_7cf53 1 = .ok (.iload_n 1, 1) := by decide +kernel
theorem dJ9_max_7cf53_2 : decode cJ9_max_7cf53 2 = .ok (.if_icmp .lt 7, 3) := by decide +kernel
theorem dJ9_max_7cf53_5 : decode cJ9_max_7cf53 5 = .ok (.iload_n 0, 1) := by decide +kernel
theorem dJ9_max_7cf53_6 : decode cJ9_max_7cf53 6 = .ok (.goto 4, 3) := by decide +kernel
theorem dJ9_max_7cf53_9 : decode cJ9_max_7cf53 9 = .ok (.iload_n 1, 1) := by decide +kernel
theorem dJ9_max_7cf53_10 : decode cJ9_max_7cf53 10 = .ok (.ireturn, 1) := by decide +kernel
theorem dJ9_min_7cf53_0 : decode cJ9_min_7cf53 0 = .ok (.iload_n 0, 1) := by decide +kernel
theorem dJ9_min_7cf53_1 : decode cJ9_min_7cf53 1 = .ok (.iload_n 1, 1) := by decide +kernel
theorem dJ9_min_7cf53_2 : decode cJ9_min_7cf53 2 = .ok (.if_icmp .gt 7, 3) := by decide +kernel
theorem dJ9_min_7cf53_5 : decode cJ9_min_7cf53 5 = .ok (.iload_n 0, 1) := by decide +kernel
theorem dJ9_min_7cf53_6 : decode cJ9_min_7cf53 6 = .ok (.goto 4, 3) := by decide +kernel
theorem dJ9_min_7cf53_9 : decode cJ9_min_7cf53 9 = .ok (.iload_n 1, 1) := by decide +kernel
theorem dJ9_min_7cf53_10 : decode cJ9_min_7cf53 10 = .ok (.ireturn, 1) := by decide +kernel
theorem dJxde1cd_init_a7421_0 : decode cJxde1cd_init_a7421 0 = .ok (.aload_n 0, 1) := by decide +kernel
theorem dJxde1cd_init_a7421_1 : decode cJxde1cd_init_a7421 1 = .ok (.aload_n 1, 1) := by decide +kernel
theorem dJxde1cd_init_a7421_2 : decode cJxde1cd_init_a7421 2 = .ok (.invokespecial 7, 3) := by decide +kernel
theorem dJxde1cd_init_a7421_5 : decode cJxde1cd_init_a7421 5 = .ok (.return_, 1) := by decide +kernel
theorem dJ7_fill_d0a16_0 : decode cJ7_fill_d0a16 0 = .ok (.iconst 0, 1) := by decide +kernel
theorem dJ7_fill_d0a16_1 : decode cJ7_fill_d0a16 1 = .ok (.istore_n 3, 1) := by decide +kernel
theorem dJ7_fill_d0a16_2 : decode cJ7_fill_d0a16 2 = .ok (.aload_n 0, 1) := by decide +kernel
theorem dJ7_fill_d0a16_3 : decode cJ7_fill_d0a16 3 = .ok (.arraylength, 1) := by decide +kernel
theorem dJ7_fill_d0a16_4 : decode cJ7_fill_d0a16 4 = .ok (.istore 4, 2) := by decide +kernel
theorem dJ7_fill_d0a16_6 : decode cJ7_fill_d0a16 6 = .ok (.iload_n 3, 1) := by decide +kernel
theorem dJ7_fill_d0a16_7 : decode cJ7_fill_d0a16 7 = .ok (.iload 4, 2) := by decide +kernel
theorem dJ7_fill_d0a16_9 : decode cJ7_fill_d0a16 9 = .ok (.if_icmp .ge 13, 3) := by decide +kernel
theorem dJ7_fill_d0a16_12 : decode cJ7_fill_d0a16 12 = .ok (.aload_n 0, 1) := by decide +kernel
theorem dJ7_fill_d0a16_13 : decode cJ7_fill_d0a16 13 = .ok (.iload_n 3, 1) := by decide +kernel
theorem dJ7_fill_d0a16_14 : decode cJ7_fill_d0a16 14 = .ok (.lload_n 1, 1) := by decide +kernel
theorem dJ7_fill_d0a16_15 : decode cJ7_fill_d0a16 15 = .ok (.lastore, 1) := by decide +kernel
theorem dJ7_fill_d0a16_16 : decode cJ7_fill_d0a16 16 = .ok (.iinc 3 1, 3) := by decide +kernel
theorem dJ7_fill_d0a16_19 : decode cJ7_fill_d0a16 19 = .ok (.goto (-13), 3) := by decide +kernel
theorem dJ7_fill_d0a16_22 : decode cJ7_fill_d0a16 22 = .ok (.return_, 1) := by decide +kernel
theorem dJ7_fill_031fb_0 : decode cJ7_fill_031fb 0 = .ok (.iconst 0, 1) := by decide +kernel
theorem dJ7_fill_031fb_1 : decode cJ7_fill_031fb 1 = .ok (.istore_n 2, 1) := by decide +kernel
theorem dJ7_fill_031fb_2 : decode cJ7_fill_031fb 2 = .ok (.aload_n 0, 1) := by decide +kernel
theorem dJ7_fill_031fb_3 : decode cJ7_fill_031fb 3 = .ok (.arraylength, 1) := by decide +kernel
theorem dJ7_fill_031fb_4 : decode cJ7_fill_031fb 4 = .ok (.istore_n 3, 1) := by decide +kernel
theorem dJ7_fill_031fb_5 : decode cJ7_fill_031fb 5 = .ok (.iload_n 2, 1) := by decide +kernel
theorem dJ7_fill_031fb_6 : decode cJ7_fill_031fb 6 = .ok (.iload_n 3, 1) := by decide +kernel
theorem dJ7_fill_031fb_7 : decode cJ7_fill_031fb 7 = .ok (.if_icmp .ge 13, 3) := by decide +kernel
theorem dJ7_fill_031fb_10 : decode cJ7_fill_031fb 10 = .ok (.aload_n 0, 1) := by decide +kernel
theorem dJ7_fill_031fb_11 : decode cJ7_fill_031fb 11 = .ok (.iload_n 2, 1) := by decide +kernel
theorem dJ7_fill_031fb_12 : decode cJ7_fill_031fb 12 = .ok (.iload_n 1, 1) := by decide +kernel
theorem dJ7_fill_031fb_13 : decode cJ7_fill_031fb 13 = .ok (.bastore, 1) := by decide +kernel
theorem dJ7_fill_031fb_14 : decode cJ7_fill_031fb 14 = .ok (.iinc 2 1, 3) := by decide +kernel
theorem dJ7_fill_031fb_17 : decode cJ7_fill_031fb 17 = .ok (.goto (-12), 3) := by decide +kernel
theorem dJ7_fill_031fb_20 : decode cJ7_fill_031fb 20 = .ok (.return_, 1) := by decide +kernel
theorem dL_begin_0 : decode cL_begin 0 = .ok (.aload_n 0, 1) := by decide +kernel
theorem dL_begin_1 : decode cL_begin 1 = .ok (.iload_n 1, 1) := by decide +kernel
theorem dL_begin_2 : decode cL_begin 2 = .ok (.invokevirtual 7, 3) := by decide +kernel
theorem dL_begin_5 : decode cL_begin 5 = .ok (.goto 9, 3) := by decide +kernel
theorem dL_begin_8 : decode cL_begin 8 = .ok (.astore_n 2, 1) := by decide +kernel
theorem dL_begin_9 : decode cL_begin 9 = .ok (.iconst 1, 1) := by decide +kernel
theorem dL_begin_10 : decode cL_begin 10 = .ok (.ireturn, 1) := by decide +kernel
theorem dL_begin_11 : decode cL_begin 11 = .ok (.astore_n 2, 1) := by decide +kernel
theorem dL_begin_12 : decode cL_begin 12 = .ok (.iconst 2, 1) := by decide +kernel
theorem dL_begin_13 : decode cL_begin 13 = .ok (.ireturn, 1) := by decide +kernel
theorem dL_begin_14 : decode cL_begin 14 = .ok (.iconst 0, 1) := by decide +kernel
theorem dL_begin_15 : decode cL_begin 15 = .ok (.ireturn, 1) := by decide +kernel
theorem dL_edge_0 : decode cL_edge 0 = .ok (.aload 4, 2) := by decide +kernel
theorem dL_edge_2 : decode cL_edge 2 = .ok (.iconst 0, 1) := by decide +kernel
theorem dL_edge_3 : decode cL_edge 3 = .ok (.aload_n 0, 1) := by decide +kernel
theorem dL_edge_4 : decode cL_edge 4 = .ok (.iload_n 1, 1) := by decide +kernel
theorem dL_edge_5 : decode cL_edge 5 = .ok (.iload_n 2, 1) := by decide +kernel
theorem dL_edge_6 : decode cL_edge 6 = .ok (.iload_n 3, 1) := by decide +kernel
theorem dL_edge_7 : decode cL_edge 7 = .ok (.invokevirtual 17, 3) := by decide +kernel
theorem dL_edge_10 : decode cL_edge 10 = .ok (.i2l, 1) := by decide +kernel
theorem dL_edge_11 : decode cL_edge 11 = .ok (.lastore, 1) := by decide +kernel
theorem dL_edge_12 : decode cL_edge 12 = .ok (.goto 11, 3) := by decide +kernel
theorem dL_edge_15 : decode cL_edge 15 = .ok (.astore 5, 2) := by decide +kernel
theorem dL_edge_17 : decode cL_edge 17 = .ok (.iconst 1, 1) := by decide +kernel
theorem dL_edge_18 : decode cL_edge 18 = .ok (.ireturn, 1) := by decide +kernel
theorem dL_edge_19 : decode cL_edge 19 = .ok (.astore 5, 2) := by decide +kernel
theorem dL_edge_21 : decode cL_edge 21 = .ok (.iconst 2, 1) := by decide +kernel
theorem dL_edge_22 : decode cL_edge 22 = .ok (.ireturn, 1) := by decide +kernel
theorem dL_edge_23 : decode cL_edge 23 = .ok (.iconst 0, 1) := by decide +kernel
theorem dL_edge_24 : decode cL_edge 24 = .ok (.ireturn, 1) := by decide +kernel
theorem dL_version_0 : decode cL_version 0 = .ok (.aload_n 1, 1) := by decide +kernel
theorem dL_version_1 : decode cL_version 1 = .ok (.iconst 0, 1) := by decide +kernel
theorem dL_version_2 : decode cL_version 2 = .ok (.aload_n 0, 1) := by decide +kernel
theorem dL_version_3 : decode cL_version 3 = .ok (.invokevirtual 25, 3) := by decide +kernel
theorem dL_version_6 : decode cL_version 6 = .ok (.i2l, 1) := by decide +kernel
theorem dL_version_7 : decode cL_version 7 = .ok (.lastore, 1) := by decide +kernel
theorem dL_version_8 : decode cL_version 8 = .ok (.goto 6, 3) := by decide +kernel
theorem dL_version_11 : decode cL_version 11 = .ok (.astore_n 2, 1) := by decide +kernel
theorem dL_version_12 : decode cL_version 12 = .ok (.iconst 1, 1) := by decide +kernel
theorem dL_version_13 : decode cL_version 13 = .ok (.ireturn, 1) := by decide +kernel
theorem dL_version_14 : decode cL_version 14 = .ok (.iconst 0, 1) := by decide +kernel
theorem dL_version_15 : decode cL_version 15 = .ok (.ireturn, 1) := by decide +kernel
theorem dL_answer_0 : decode cL_answer 0 = .ok (.aload_n 3, 1) := by decide +kernel
theorem dL_answer_1 : decode cL_answer 1 = .ok (.iconst 0, 1) := by decide +kernel
theorem dL_answer_2 : decode cL_answer 2 = .ok (.aload_n 0, 1) := by decide +kernel
theorem dL_answer_3 : decode cL_answer 3 = .ok (.iload_n 1, 1) := by decide +kernel
theorem dL_answer_4 : decode cL_answer 4 = .ok (.iload_n 2, 1) := by decide +kernel
theorem dL_answer_5 : decode cL_answer 5 = .ok (.invokevirtual 29, 3) := by decide +kernel
theorem dL_answer_8 : decode cL_answer 8 = .ok (.i2l, 1) := by decide +kernel
theorem dL_answer_9 : decode cL_answer 9 = .ok (.lastore, 1) := by decide +kernel
theorem dL_answer_10 : decode cL_answer 10 = .ok (.goto 11, 3) := by decide +kernel
theorem dL_answer_13 : decode cL_answer 13 = .ok (.astore 4, 2) := by decide +kernel
theorem dL_answer_15 : decode cL_answer 15 = .ok (.iconst 1, 1) := by decide +kernel
theorem dL_answer_16 : decode cL_answer 16 = .ok (.ireturn, 1) := by decide +kernel
theorem dL_answer_17 : decode cL_answer 17 = .ok (.astore 4, 2) := by decide +kernel
theorem dL_answer_19 : decode cL_answer 19 = .ok (.iconst 2, 1) := by decide +kernel
theorem dL_answer_20 : decode cL_answer 20 = .ok (.ireturn, 1) := by decide +kernel
theorem dL_answer_21 : decode cL_answer 21 = .ok (.iconst 0, 1) := by decide +kernel
theorem dL_answer_22 : decode cL_answer 22 = .ok (.ireturn, 1) := by decide +kernel
theorem dL_drop_0 : decode cL_drop 0 = .ok (.aload_n 2, 1) := by decide +kernel
theorem dL_drop_1 : decode cL_drop 1 = .ok (.iconst 0, 1) := by decide +kernel
theorem dL_drop_2 : decode cL_drop 2 = .ok (.aload_n 0, 1) := by decide +kernel
theorem dL_drop_3 : decode cL_drop 3 = .ok (.iload_n 1, 1) := by decide +kernel
theorem dL_drop_4 : decode cL_drop 4 = .ok (.invokevirtual 33, 3) := by decide +kernel
theorem dL_drop_7 : decode cL_drop 7 = .ok (.i2l, 1) := by decide +kernel
theorem dL_drop_8 : decode cL_drop 8 = .ok (.lastore, 1) := by decide +kernel
theorem dL_drop_9 : decode cL_drop 9 = .ok (.goto 9, 3) := by decide +kernel
theorem dL_drop_12 : decode cL_drop 12 = .ok (.astore_n 3, 1) := by decide +kernel
theorem dL_drop_13 : decode cL_drop 13 = .ok (.iconst 1, 1) := by decide +kernel
theorem dL_drop_14 : decode cL_drop 14 = .ok (.ireturn, 1) := by decide +kernel
theorem dL_drop_15 : decode cL_drop 15 = .ok (.astore_n 3, 1) := by decide +kernel
theorem dL_drop_16 : decode cL_drop 16 = .ok (.iconst 2, 1) := by decide +kernel
theorem dL_drop_17 : decode cL_drop 17 = .ok (.ireturn, 1) := by decide +kernel
theorem dL_drop_18 : decode cL_drop 18 = .ok (.iconst 0, 1) := by decide +kernel
theorem dL_drop_19 : decode cL_drop 19 = .ok (.ireturn, 1) := by decide +kernel
theorem dL_keep_0 : decode cL_keep 0 = .ok (.aload_n 1, 1) := by decide +kernel
theorem dL_keep_1 : decode cL_keep 1 = .ok (.iconst 0, 1) := by decide +kernel
theorem dL_keep_2 : decode cL_keep 2 = .ok (.aload_n 0, 1) := by decide +kernel
theorem dL_keep_3 : decode cL_keep 3 = .ok (.invokevirtual 37, 3) := by decide +kernel
theorem dL_keep_6 : decode cL_keep 6 = .ok (.i2l, 1) := by decide +kernel
theorem dL_keep_7 : decode cL_keep 7 = .ok (.lastore, 1) := by decide +kernel
theorem dL_keep_8 : decode cL_keep 8 = .ok (.goto 6, 3) := by decide +kernel
theorem dL_keep_11 : decode cL_keep 11 = .ok (.astore_n 2, 1) := by decide +kernel
theorem dL_keep_12 : decode cL_keep 12 = .ok (.iconst 1, 1) := by decide +kernel
theorem dL_keep_13 : decode cL_keep 13 = .ok (.ireturn, 1) := by decide +kernel
theorem dL_keep_14 : decode cL_keep 14 = .ok (.iconst 0, 1) := by decide +kernel
theorem dL_keep_15 : decode cL_keep 15 = .ok (.ireturn, 1) := by decide +kernel
theorem dL_poke_0 : decode cL_poke 0 = .ok (.aload_n 3, 1) := by decide +kernel
theorem dL_poke_1 : decode cL_poke 1 = .ok (.iconst 0, 1) := by decide +kernel
theorem dL_poke_2 : decode cL_poke 2 = .ok (.aload_n 0, 1) := by decide +kernel
theorem dL_poke_3 : decode cL_poke 3 = .ok (.iload_n 1, 1) := by decide +kernel
theorem dL_poke_4 : decode cL_poke 4 = .ok (.iload_n 2, 1) := by decide +kernel
theorem dL_poke_5 : decode cL_poke 5 = .ok (.invokevirtual 40, 3) := by decide +kernel
theorem dL_poke_8 : decode cL_poke 8 = .ok (.i2l, 1) := by decide +kernel
theorem dL_poke_9 : decode cL_poke 9 = .ok (.lastore, 1) := by decide +kernel
theorem dL_poke_10 : decode cL_poke 10 = .ok (.goto 7, 3) := by decide +kernel
theorem dL_poke_13 : decode cL_poke 13 = .ok (.astore 4, 2) := by decide +kernel
theorem dL_poke_15 : decode cL_poke 15 = .ok (.iconst 1, 1) := by decide +kernel
theorem dL_poke_16 : decode cL_poke 16 = .ok (.ireturn, 1) := by decide +kernel
theorem dL_poke_17 : decode cL_poke 17 = .ok (.iconst 0, 1) := by decide +kernel
theorem dL_poke_18 : decode cL_poke 18 = .ok (.ireturn, 1) := by decide +kernel
theorem dL_byteAt_0 : decode cL_byteAt 0 = .ok (.aload_n 2, 1) := by decide +kernel
theorem dL_byteAt_1 : decode cL_byteAt 1 = .ok (.iconst 0, 1) := by decide +kernel
theorem dL_byteAt_2 : decode cL_byteAt 2 = .ok (.aload_n 0, 1) := by decide +kernel
theorem dL_byteAt_3 : decode cL_byteAt 3 = .ok (.iload_n 1, 1) := by decide +kernel
theorem dL_byteAt_4 : decode cL_byteAt 4 = .ok (.invokevirtual 43, 3) := by decide +kernel
theorem dL_byteAt_7 : decode cL_byteAt 7 = .ok (.i2l, 1) := by decide +kernel
theorem dL_byteAt_8 : decode cL_byteAt 8 = .ok (.lastore, 1) := by decide +kernel
theorem dL_byteAt_9 : decode cL_byteAt 9 = .ok (.goto 6, 3) := by decide +kernel
theorem dL_byteAt_12 : decode cL_byteAt 12 = .ok (.astore_n 3, 1) := by decide +kernel
theorem dL_byteAt_13 : decode cL_byteAt 13 = .ok (.iconst 1, 1) := by decide +kernel
theorem dL_byteAt_14 : decode cL_byteAt 14 = .ok (.ireturn, 1) := by decide +kernel
theorem dL_byteAt_15 : decode cL_byteAt 15 = .ok (.iconst 0, 1) := by decide +kernel
theorem dL_byteAt_16 : decode cL_byteAt 16 = .ok (.ireturn, 1) := by decide +kernel
theorem dL_badAt_0 : decode cL_badAt 0 = .ok (.aload_n 1, 1) := by decide +kernel
theorem dL_badAt_1 : decode cL_badAt 1 = .ok (.iconst 0, 1) := by decide +kernel
theorem dL_badAt_2 : decode cL_badAt 2 = .ok (.aload_n 0, 1) := by decide +kernel
theorem dL_badAt_3 : decode cL_badAt 3 = .ok (.invokevirtual 46, 3) := by decide +kernel
theorem dL_badAt_6 : decode cL_badAt 6 = .ok (.i2l, 1) := by decide +kernel
theorem dL_badAt_7 : decode cL_badAt 7 = .ok (.lastore, 1) := by decide +kernel
theorem dL_badAt_8 : decode cL_badAt 8 = .ok (.goto 6, 3) := by decide +kernel
theorem dL_badAt_11 : decode cL_badAt 11 = .ok (.astore_n 2, 1) := by decide +kernel
theorem dL_badAt_12 : decode cL_badAt 12 = .ok (.iconst 1, 1) := by decide +kernel
theorem dL_badAt_13 : decode cL_badAt 13 = .ok (.ireturn, 1) := by decide +kernel
theorem dL_badAt_14 : decode cL_badAt 14 = .ok (.iconst 0, 1) := by decide +kernel
theorem dL_badAt_15 : decode cL_badAt 15 = .ok (.ireturn, 1) := by decide +kernel
theorem dL_has_0 : decode cL_has 0 = .ok (.aload 4, 2) := by decide +kernel
theorem dL_has_2 : decode cL_has 2 = .ok (.iconst 0, 1) := by decide +kernel
theorem dL_has_3 : decode cL_has 3 = .ok (.aload_n 0, 1) := by decide +kernel
theorem dL_has_4 : decode cL_has 4 = .ok (.iload_n 1, 1) := by decide +kernel
theorem dL_has_5 : decode cL_has 5 = .ok (.iload_n 2, 1) := by decide +kernel
theorem dL_has_6 : decode cL_has 6 = .ok (.iload_n 3, 1) := by decide +kernel
theorem dL_has_7 : decode cL_has 7 = .ok (.invokevirtual 49, 3) := by decide +kernel
theorem dL_has_10 : decode cL_has 10 = .ok (.ifCond .eq 7, 3) := by decide +kernel
theorem dL_has_13 : decode cL_has 13 = .ok (.lconst 1, 1) := by decide +kernel
theorem dL_has_14 : decode cL_has 14 = .ok (.goto 4, 3) := by decide +kernel
theorem dL_has_17 : decode cL_has 17 = .ok (.lconst 0, 1) := by decide +kernel
theorem dL_has_18 : decode cL_has 18 = .ok (.lastore, 1) := by decide +kernel
theorem dL_has_19 : decode cL_has 19 = .ok (.goto 11, 3) := by decide +kernel
theorem dL_has_22 : decode cL_has 22 = .ok (.astore 5, 2) := by decide +kernel
theorem dL_has_24 : decode cL_has 24 = .ok (.iconst 1, 1) := by decide +kernel
theorem dL_has_25 : decode cL_has 25 = .ok (.ireturn, 1) := by decide +kernel
theorem dL_has_26 : decode cL_has 26 = .ok (.astore 5, 2) := by decide +kernel
theorem dL_has_28 : decode cL_has 28 = .ok (.iconst 2, 1) := by decide +kernel
theorem dL_has_29 : decode cL_has 29 = .ok (.ireturn, 1) := by decide +kernel
theorem dL_has_30 : decode cL_has 30 = .ok (.iconst 0, 1) := by decide +kernel
theorem dL_has_31 : decode cL_has 31 = .ok (.ireturn, 1) := by decide +kernel
theorem dL_chunk_0 : decode cL_chunk 0 = .ok (.aload_n 3, 1) := by decide +kernel
theorem dL_chunk_1 : decode cL_chunk 1 = .ok (.iconst 0, 1) := by decide +kernel
theorem dL_chunk_2 : decode cL_chunk 2 = .ok (.aload_n 0, 1) := by decide +kernel
theorem dL_chunk_3 : decode cL_chunk 3 = .ok (.iload_n 1, 1) := by decide +kernel
theorem dL_chunk_4 : decode cL_chunk 4 = .ok (.iload_n 2, 1) := by decide +kernel
theorem dL_chunk_5 : decode cL_chunk 5 = .ok (.invokevirtual 53, 3) := by decide +kernel
theorem dL_chunk_8 : decode cL_chunk 8 = .ok (.i2l, 1) := by decide +kernel
theorem dL_chunk_9 : decode cL_chunk 9 = .ok (.lastore, 1) := by decide +kernel
theorem dL_chunk_10 : decode cL_chunk 10 = .ok (.goto 11, 3) := by decide +kernel
theorem dL_chunk_13 : decode cL_chunk 13 = .ok (.astore 4, 2) := by decide +kernel
theorem dL_chunk_15 : decode cL_chunk 15 = .ok (.iconst 1, 1) := by decide +kernel
theorem dL_chunk_16 : decode cL_chunk 16 = .ok (.ireturn, 1) := by decide +kernel
theorem dL_chunk_17 : decode cL_chunk 17 = .ok (.astore 4, 2) := by decide +kernel
theorem dL_chunk_19 : decode cL_chunk 19 = .ok (.iconst 2, 1) := by decide +kernel
theorem dL_chunk_20 : decode cL_chunk 20 = .ok (.ireturn, 1) := by decide +kernel
theorem dL_chunk_21 : decode cL_chunk 21 = .ok (.iconst 0, 1) := by decide +kernel
theorem dL_chunk_22 : decode cL_chunk 22 = .ok (.ireturn, 1) := by decide +kernel
theorem dL_named_0 : decode cL_named 0 = .ok (.aload_n 2, 1) := by decide +kernel
theorem dL_named_1 : decode cL_named 1 = .ok (.iconst 0, 1) := by decide +kernel
theorem dL_named_2 : decode cL_named 2 = .ok (.aload_n 0, 1) := by decide +kernel
theorem dL_named_3 : decode cL_named 3 = .ok (.iload_n 1, 1) := by decide +kernel
theorem dL_named_4 : decode cL_named 4 = .ok (.invokevirtual 56, 3) := by decide +kernel
theorem dL_named_7 : decode cL_named 7 = .ok (.i2l, 1) := by decide +kernel
theorem dL_named_8 : decode cL_named 8 = .ok (.lastore, 1) := by decide +kernel
theorem dL_named_9 : decode cL_named 9 = .ok (.goto 9, 3) := by decide +kernel
theorem dL_named_12 : decode cL_named 12 = .ok (.astore_n 3, 1) := by decide +kernel
theorem dL_named_13 : decode cL_named 13 = .ok (.iconst 1, 1) := by decide +kernel
theorem dL_named_14 : decode cL_named 14 = .ok (.ireturn, 1) := by decide +kernel
theorem dL_named_15 : decode cL_named 15 = .ok (.astore_n 3, 1) := by decide +kernel
theorem dL_named_16 : decode cL_named 16 = .ok (.iconst 2, 1) := by decide +kernel
theorem dL_named_17 : decode cL_named 17 = .ok (.ireturn, 1) := by decide +kernel
theorem dL_named_18 : decode cL_named 18 = .ok (.iconst 0, 1) := by decide +kernel
theorem dL_named_19 : decode cL_named 19 = .ok (.ireturn, 1) := by decide +kernel
theorem dL_differ_0 : decode cL_differ 0 = .ok (.aload_n 3, 1) := by decide +kernel
theorem dL_differ_1 : decode cL_differ 1 = .ok (.iconst 0, 1) := by decide +kernel
theorem dL_differ_2 : decode cL_differ 2 = .ok (.aload_n 0, 1) := by decide +kernel
theorem dL_differ_3 : decode cL_differ 3 = .ok (.iload_n 1, 1) := by decide +kernel
theorem dL_differ_4 : decode cL_differ 4 = .ok (.iload_n 2, 1) := by decide +kernel
theorem dL_differ_5 : decode cL_differ 5 = .ok (.invokevirtual 59, 3) := by decide +kernel
theorem dL_differ_8 : decode cL_differ 8 = .ok (.i2l, 1) := by decide +kernel
theorem dL_differ_9 : decode cL_differ 9 = .ok (.lastore, 1) := by decide +kernel
theorem dL_differ_10 : decode cL_differ 10 = .ok (.goto 11, 3) := by decide +kernel
theorem dL_differ_13 : decode cL_differ 13 = .ok (.astore 4, 2) := by decide +kernel
theorem dL_differ_15 : decode cL_differ 15 = .ok (.iconst 1, 1) := by decide +kernel
theorem dL_differ_16 : decode cL_differ 16 = .ok (.ireturn, 1) := by decide +kernel
theorem dL_differ_17 : decode cL_differ 17 = .ok (.astore 4, 2) := by decide +kernel
theorem dL_differ_19 : decode cL_differ 19 = .ok (.iconst 2, 1) := by decide +kernel
theorem dL_differ_20 : decode cL_differ 20 = .ok (.ireturn, 1) := by decide +kernel
theorem dL_differ_21 : decode cL_differ 21 = .ok (.iconst 0, 1) := by decide +kernel
theorem dL_differ_22 : decode cL_differ 22 = .ok (.ireturn, 1) := by decide +kernel
theorem dL_far_0 : decode cL_far 0 = .ok (.aload 4, 2) := by decide +kernel
theorem dL_far_2 : decode cL_far 2 = .ok (.iconst 0, 1) := by decide +kernel
theorem dL_far_3 : decode cL_far 3 = .ok (.aload_n 0, 1) := by decide +kernel
theorem dL_far_4 : decode cL_far 4 = .ok (.iload_n 1, 1) := by decide +kernel
theorem dL_far_5 : decode cL_far 5 = .ok (.iload_n 2, 1) := by decide +kernel
theorem dL_far_6 : decode cL_far 6 = .ok (.iload_n 3, 1) := by decide +kernel
theorem dL_far_7 : decode cL_far 7 = .ok (.invokevirtual 62, 3) := by decide +kernel
theorem dL_far_10 : decode cL_far 10 = .ok (.i2l, 1) := by decide +kernel
theorem dL_far_11 : decode cL_far 11 = .ok (.lastore, 1) := by decide +kernel
theorem dL_far_12 : decode cL_far 12 = .ok (.goto 11, 3) := by decide +kernel
theorem dL_far_15 : decode cL_far 15 = .ok (.astore 5, 2) := by decide +kernel
theorem dL_far_17 : decode cL_far 17 = .ok (.iconst 1, 1) := by decide +kernel
theorem dL_far_18 : decode cL_far 18 = .ok (.ireturn, 1) := by decide +kernel
theorem dL_far_19 : decode cL_far 19 = .ok (.astore 5, 2) := by decide +kernel
theorem dL_far_21 : decode cL_far 21 = .ok (.iconst 2, 1) := by decide +kernel
theorem dL_far_22 : decode cL_far 22 = .ok (.ireturn, 1) := by decide +kernel
theorem dL_far_23 : decode cL_far 23 = .ok (.iconst 0, 1) := by decide +kernel
theorem dL_far_24 : decode cL_far 24 = .ok (.ireturn, 1) := by decide +kernel
theorem dL_usable_0 : decode cL_usable 0 = .ok (.aload_n 2, 1) := by decide +kernel
theorem dL_usable_1 : decode cL_usable 1 = .ok (.iconst 0, 1) := by decide +kernel
theorem dL_usable_2 : decode cL_usable 2 = .ok (.aload_n 0, 1) := by decide +kernel
theorem dL_usable_3 : decode cL_usable 3 = .ok (.iload_n 1, 1) := by decide +kernel
theorem dL_usable_4 : decode cL_usable 4 = .ok (.invokevirtual 66, 3) := by decide +kernel
theorem dL_usable_7 : decode cL_usable 7 = .ok (.ifCond .eq 7, 3) := by decide +kernel
theorem dL_usable_10 : decode cL_usable 10 = .ok (.lconst 1, 1) := by decide +kernel
theorem dL_usable_11 : decode cL_usable 11 = .ok (.goto 4, 3) := by decide +kernel
theorem dL_usable_14 : decode cL_usable 14 = .ok (.lconst 0, 1) := by decide +kernel
theorem dL_usable_15 : decode cL_usable 15 = .ok (.lastore, 1) := by decide +kernel
theorem dL_usable_16 : decode cL_usable 16 = .ok (.goto 9, 3) := by decide +kernel
theorem dL_usable_19 : decode cL_usable 19 = .ok (.astore_n 3, 1) := by decide +kernel
theorem dL_usable_20 : decode cL_usable 20 = .ok (.iconst 1, 1) := by decide +kernel
theorem dL_usable_21 : decode cL_usable 21 = .ok (.ireturn, 1) := by decide +kernel
theorem dL_usable_22 : decode cL_usable 22 = .ok (.astore_n 3, 1) := by decide +kernel
theorem dL_usable_23 : decode cL_usable 23 = .ok (.iconst 2, 1) := by decide +kernel
theorem dL_usable_24 : decode cL_usable 24 = .ok (.ireturn, 1) := by decide +kernel
theorem dL_usable_25 : decode cL_usable 25 = .ok (.iconst 0, 1) := by decide +kernel
theorem dL_usable_26 : decode cL_usable 26 = .ok (.ireturn, 1) := by decide +kernel
theorem dL_mask_0 : decode cL_mask 0 = .ok (.aload_n 2, 1) := by decide +kernel
theorem dL_mask_1 : decode cL_mask 1 = .ok (.iconst 0, 1) := by decide +kernel
theorem dL_mask_2 : decode cL_mask 2 = .ok (.aload_n 0, 1) := by decide +kernel
theorem dL_mask_3 : decode cL_mask 3 = .ok (.iload_n 1, 1) := by decide +kernel
theorem dL_mask_4 : decode cL_mask 4 = .ok (.invokevirtual 70, 3) := by decide +kernel
theorem dL_mask_7 : decode cL_mask 7 = .ok (.lastore, 1) := by decide +kernel
theorem dL_mask_8 : decode cL_mask 8 = .ok (.goto 9, 3) := by decide +kernel
theorem dL_mask_11 : decode cL_mask 11 = .ok (.astore_n 3, 1) := by decide +kernel
theorem dL_mask_12 : decode cL_mask 12 = .ok (.iconst 1, 1) := by decide +kernel
theorem dL_mask_13 : decode cL_mask 13 = .ok (.ireturn, 1) := by decide +kernel
theorem dL_mask_14 : decode cL_mask 14 = .ok (.astore_n 3, 1) := by decide +kernel
theorem dL_mask_15 : decode cL_mask 15 = .ok (.iconst 2, 1) := by decide +kernel
theorem dL_mask_16 : decode cL_mask 16 = .ok (.ireturn, 1) := by decide +kernel
theorem dL_mask_17 : decode cL_mask 17 = .ok (.iconst 0, 1) := by decide +kernel
theorem dL_mask_18 : decode cL_mask 18 = .ok (.ireturn, 1) := by decide +kernel
theorem dL_told_0 : decode cL_told 0 = .ok (.aload_n 2, 1) := by decide +kernel
theorem dL_told_1 : decode cL_told 1 = .ok (.iconst 0, 1) := by decide +kernel
theorem dL_told_2 : decode cL_told 2 = .ok (.aload_n 0, 1) := by decide +kernel
theorem dL_told_3 : decode cL_told 3 = .ok (.iload_n 1, 1) := by decide +kernel
theorem dL_told_4 : decode cL_told 4 = .ok (.invokevirtual 74, 3) := by decide +kernel
theorem dL_told_7 : decode cL_told 7 = .ok (.i2l, 1) := by decide +kernel
theorem dL_told_8 : decode cL_told 8 = .ok (.lastore, 1) := by decide +kernel
theorem dL_told_9 : decode cL_told 9 = .ok (.goto 9, 3) := by decide +kernel
theorem dL_told_12 : decode cL_told 12 = .ok (.astore_n 3, 1) := by decide +kernel
theorem dL_told_13 : decode cL_told 13 = .ok (.iconst 1, 1) := by decide +kernel
theorem dL_told_14 : decode cL_told 14 = .ok (.ireturn, 1) := by decide +kernel
theorem dL_told_15 : decode cL_told 15 = .ok (.astore_n 3, 1) := by decide +kernel
theorem dL_told_16 : decode cL_told 16 = .ok (.iconst 2, 1) := by decide +kernel
theorem dL_told_17 : decode cL_told 17 = .ok (.ireturn, 1) := by decide +kernel
theorem dL_told_18 : decode cL_told 18 = .ok (.iconst 0, 1) := by decide +kernel
theorem dL_told_19 : decode cL_told 19 = .ok (.ireturn, 1) := by decide +kernel
end
section
theorem dX5_init_0 : decode cX5_init 0 = .ok (.aload_n 0, 1) := by decide +kernel
theorem dX5_init_1 : decode cX5_init 1 = .ok (.invokespecial 1, 3) := by decide +kernel
theorem dX5_init_4 : decode cX5_init 4 = .ok (.aload_n 0, 1) := by decide +kernel
theorem dX5_init_5 : decode cX5_init 5 = .ok (.sipush 24032, 3) := by decide +kernel
theorem dX5_init_8 : decode cX5_init 8 = .ok (.newarray .int, 2) := by decide +kernel
theorem dX5_init_10 : decode cX5_init 10 = .ok (.putfield 7, 3) := by decide +kernel
theorem dX5_init_13 : decode cX5_init 13 = .ok (.aload_n 0, 1) := by decide +kernel
theorem dX5_init_14 : decode cX5_init 14 = .ok (.ldc 13, 2) := by decide +kernel
theorem dX5_init_16 : decode cX5_init 16 = .ok (.newarray .int, 2) := by decide +kernel
theorem dX5_init_18 : decode cX5_init 18 = .ok (.putfield 14, 3) := by decide +kernel
theorem dX5_init_21 : decode cX5_init 21 = .ok (.aload_n 0, 1) := by decide +kernel
theorem dX5_init_22 : decode cX5_init 22 = .ok (.ldc 13, 2) := by decide +kernel
theorem dX5_init_24 : decode cX5_init 24 = .ok (.newarray .int, 2) := by decide +kernel
theorem dX5_init_26 : decode cX5_init 26 = .ok (.putfield 17, 3) := by decide +kernel
theorem dX5_init_29 : decode cX5_init 29 = .ok (.aload_n 0, 1) := by decide +kernel
theorem dX5_init_30 : decode cX5_init 30 = .ok (.bipush 64, 2) := by decide +kernel
theorem dX5_init_32 : decode cX5_init 32 = .ok (.newarray .long, 2) := by decide +kernel
theorem dX5_init_34 : decode cX5_init 34 = .ok (.putfield 20, 3) := by decide +kernel
theorem dX5_init_37 : decode cX5_init 37 = .ok (.aload_n 0, 1) := by decide +kernel
theorem dX5_init_38 : decode cX5_init 38 = .ok (.ldc 24, 2) := by decide +kernel
theorem dX5_init_40 : decode cX5_init 40 = .ok (.newarray .int, 2) := by decide +kernel
theorem dX5_init_42 : decode cX5_init 42 = .ok (.putfield 25, 3) := by decide +kernel
theorem dX5_init_45 : decode cX5_init 45 = .ok (.aload_n 0, 1) := by decide +kernel
theorem dX5_init_46 : decode cX5_init 46 = .ok (.sipush 2560, 3) := by decide +kernel
theorem dX5_init_49 : decode cX5_init 49 = .ok (.newarray .long, 2) := by decide +kernel
theorem dX5_init_51 : decode cX5_init 51 = .ok (.putfield 28, 3) := by decide +kernel
theorem dX5_init_54 : decode cX5_init 54 = .ok (.aload_n 0, 1) := by decide +kernel
theorem dX5_init_55 : decode cX5_init 55 = .ok (.bipush 100, 2) := by decide +kernel
theorem dX5_init_57 : decode cX5_init 57 = .ok (.newarray .boolean, 2) := by decide +kernel
theorem dX5_init_59 : decode cX5_init 59 = .ok (.putfield 31, 3) := by decide +kernel
theorem dX5_init_62 : decode cX5_init 62 = .ok (.aload_n 0, 1) := by decide +kernel
theorem dX5_init_63 : decode cX5_init 63 = .ok (.sipush 800, 3) := by decide +kernel
theorem dX5_init_66 : decode cX5_init 66 = .ok (.newarray .int, 2) := by decide +kernel
theorem dX5_init_68 : decode cX5_init 68 = .ok (.putfield 35, 3) := by decide +kernel
theorem dX5_init_71 : decode cX5_init 71 = .ok (.aload_n 0, 1) := by decide +kernel
theorem dX5_init_72 : decode cX5_init 72 = .ok (.bipush 100, 2) := by decide +kernel
theorem dX5_init_74 : decode cX5_init 74 = .ok (.newarray .int, 2) := by decide +kernel
theorem dX5_init_76 : decode cX5_init 76 = .ok (.putfield 38, 3) := by decide +kernel
theorem dX5_init_79 : decode cX5_init 79 = .ok (.aload_n 0, 1) := by decide +kernel
theorem dX5_init_80 : decode cX5_init 80 = .ok (.bipush 100, 2) := by decide +kernel
theorem dX5_init_82 : decode cX5_init 82 = .ok (.newarray .long, 2) := by decide +kernel
theorem dX5_init_84 : decode cX5_init 84 = .ok (.putfield 41, 3) := by decide +kernel
theorem dX5_init_87 : decode cX5_init 87 = .ok (.aload_n 0, 1) := by decide +kernel
theorem dX5_init_88 : decode cX5_init 88 = .ok (.bipush 8, 2) := by decide +kernel
theorem dX5_init_90 : decode cX5_init 90 = .ok (.newarray .int, 2) := by decide +kernel
theorem dX5_init_92 : decode cX5_init 92 = .ok (.putfield 44, 3) := by decide +kernel
theorem dX5_init_95 : decode cX5_init 95 = .ok (.aload_n 0, 1) := by decide +kernel
theorem dX5_init_96 : decode cX5_init 96 = .ok (.bipush 8, 2) := by decide +kernel
theorem dX5_init_98 : decode cX5_init 98 = .ok (.newarray .boolean, 2) := by decide +kernel
theorem dX5_init_100 : decode cX5_init 100 = .ok (.putfield 47, 3) := by decide +kernel
theorem dX5_init_103 : decode cX5_init 103 = .ok (.aload_n 0, 1) := by decide +kernel
theorem dX5_init_104 : decode cX5_init 104 = .ok (.bipush 64, 2) := by decide +kernel
theorem dX5_init_106 : decode cX5_init 106 = .ok (.newarray .long, 2) := by decide +kernel
theorem dX5_init_108 : decode cX5_init 108 = .ok (.putfield 50, 3) := by decide +kernel
theorem dX5_init_111 : decode cX5_init 111 = .ok (.aload_n 0, 1) := by decide +kernel
theorem dX5_init_112 : decode cX5_init 112 = .ok (.ldc 24, 2) := by decide +kernel
theorem dX5_init_114 : decode cX5_init 114 = .ok (.newarray .int, 2) := by decide +kernel
theorem dX5_init_116 : decode cX5_init 116 = .ok (.putfield 53, 3) := by decide +kernel
theorem dX5_init_119 : decode cX5_init 119 = .ok (.aload_n 0, 1) := by decide +kernel
theorem dX5_init_120 : decode cX5_init 120 = .ok (.sipush 2560, 3) := by decide +kernel
theorem dX5_init_123 : decode cX5_init 123 = .ok (.newarray .long, 2) := by decide +kernel
theorem dX5_init_125 : decode cX5_init 125 = .ok (.putfield 56, 3) := by decide +kernel
theorem dX5_init_128 : decode cX5_init 128 = .ok (.aload_n 0, 1) := by decide +kernel
theorem dX5_init_129 : decode cX5_init 129 = .ok (.bipush 100, 2) := by decide +kernel
theorem dX5_init_131 : decode cX5_init 131 = .ok (.newarray .boolean, 2) := by decide +kernel
theorem dX5_init_133 : decode cX5_init 133 = .ok (.putfield 59, 3) := by decide +kernel
theorem dX5_init_136 : decode cX5_init 136 = .ok (.aload_n 0, 1) := by decide +kernel
theorem dX5_init_137 : decode cX5_init 137 = .ok (.sipush 800, 3) := by decide +kernel
theorem dX5_init_140 : decode cX5_init 140 = .ok (.newarray .int, 2) := by decide +kernel
theorem dX5_init_142 : decode cX5_init 142 = .ok (.putfield 62, 3) := by decide +kernel
theorem dX5_init_145 : decode cX5_init 145 = .ok (.aload_n 0, 1) := by decide +kernel
theorem dX5_init_146 : decode cX5_init 146 = .ok (.bipush 100, 2) := by decide +kernel
theorem dX5_init_148 : decode cX5_init 148 = .ok (.newarray .int, 2) := by decide +kernel
theorem dX5_init_150 : decode cX5_init 150 = .ok (.putfield 65, 3) := by decide +kernel
theorem dX5_init_153 : decode cX5_init 153 = .ok (.aload_n 0, 1) := by decide +kernel
theorem dX5_init_154 : decode cX5_init 154 = .ok (.bipush 100, 2) := by decide +kernel
theorem dX5_init_156 : decode cX5_init 156 = .ok (.newarray .long, 2) := by decide +kernel
theorem dX5_init_158 : decode cX5_init 158 = .ok (.putfield 68, 3) := by decide +kernel
theorem dX5_init_161 : decode cX5_init 161 = .ok (.aload_n 0, 1) := by decide +kernel
theorem dX5_init_162 : decode cX5_init 162 = .ok (.bipush 64, 2) := by decide +kernel
theorem dX5_init_164 : decode cX5_init 164 = .ok (.invokevirtual 71, 3) := by decide +kernel
theorem dX5_init_167 : decode cX5_init 167 = .ok (.return_, 1) := by decide +kernel
theorem dX5_begin_0 : decode cX5_begin 0 = .ok (.aload_n 0, 1) := by decide +kernel
theorem dX5_begin_1 : decode cX5_begin 1 = .ok (.iload_n 1, 1) := by decide +kernel
theorem dX5_begin_2 : decode cX5_begin 2 = .ok (.ifCond .ge 7, 3) := by decide +kernel
theorem dX5_begin_5 : decode cX5_begin 5 = .ok (.iconst 1, 1) := by decide +kernel
theorem dX5_begin_6 : decode cX5_begin 6 = .ok (.goto 18, 3) := by decide +kernel
theorem dX5_begin_9 : decode cX5_begin 9 = .ok (.iload_n 1, 1) := by decide +kernel
theorem dX5_begin_10 : decode cX5_begin 10 = .ok (.ifCond .eq 9, 3) := by decide +kernel
theorem dX5_begin_13 : decode cX5_begin 13 = .ok (.iload_n 1, 1) := by decide +kernel
theorem dX5_begin_14 : decode cX5_begin 14 = .ok (.ldc 24, 2) := by decide +kernel
theorem dX5_begin_16 : decode cX5_begin 16 = .ok (.if_icmp .le 7, 3) := by decide +kernel
theorem dX5_begin_19 : decode cX5_begin 19 = .ok (.iconst 2, 1) := by decide +kernel
theorem dX5_begin_20 : decode cX5_begin 20 = .ok (.goto 4, 3) := by decide +kernel
theorem dX5_begin_23 : decode cX5_begin 23 = .ok (.iconst 0, 1) := by decide +kernel
theorem dX5_begin_24 : decode cX5_begin 24 = .ok (.putfield 75, 3) := by decide +kernel
theorem dX5_begin_27 : decode cX5_begin 27 = .ok (.aload_n 0, 1) := by decide +kernel
theorem dX5_begin_28 : decode cX5_begin 28 = .ok (.getfield 75, 3) := by decide +kernel
theorem dX5_begin_31 : decode cX5_begin 31 = .ok (.ifCond .ne 8, 3) := by decide +kernel
theorem dX5_begin_34 : decode cX5_begin 34 = .ok (.aload_n 0, 1) := by decide +kernel
theorem dX5_begin_35 : decode cX5_begin 35 = .ok (.iload_n 1, 1) := by decide +kernel
theorem dX5_begin_36 : decode cX5_begin 36 = .ok (.invokevirtual 71, 3) := by decide +kernel
theorem dX5_begin_39 : decode cX5_begin 39 = .ok (.return_, 1) := by decide +kernel
theorem dX5_anew_0 : decode cX5_anew 0 = .ok (.aload_n 0, 1) := by decide +kernel
theorem dX5_anew_1 : decode cX5_anew 1 = .ok (.iload_n 1, 1) := by decide +kernel
theorem dX5_anew_2 : decode cX5_anew 2 = .ok (.putfield 79, 3) := by decide +kernel
theorem dX5_anew_5 : decode cX5_anew 5 = .ok (.iconst 0, 1) := by decide +kernel
theorem dX5_anew_6 : decode cX5_anew 6 = .ok (.istore_n 2, 1) := by decide +kernel
theorem dX5_anew_7 : decode cX5_anew 7 = .ok (.iload_n 2, 1) := by decide +kernel
theorem dX5_anew_8 : decode cX5_anew 8 = .ok (.sipush 24032, 3) := by decide +kernel
theorem dX5_anew_11 : decode cX5_anew 11 = .ok (.if_icmp .ge 16, 3) := by decide +kernel
theorem dX5_anew_14 : decode cX5_anew 14 = .ok (.aload_n 0, 1) := by decide +kernel
theorem dX5_anew_15 : decode cX5_anew 15 = .ok (.getfield 7, 3) := by decide +kernel
theorem dX5_anew_18 : decode cX5_anew 18 = .ok (.iload_n 2, 1) := by decide +kernel
theorem dX5_anew_19 : decode cX5_anew 19 = .ok (.iconst 0, 1) := by decide +kernel
theorem dX5_anew_20 : decode cX5_anew 20 = .ok (.iastore, 1) := by decide +kernel
theorem dX5_anew_21 : decode cX5_anew 21 = .ok (.iinc 2 1, 3) := by decide +kernel
theorem dX5_anew_24 : decode cX5_anew 24 = .ok (.goto (-17), 3) := by decide +kernel
theorem dX5_anew_27 : decode cX5_anew 27 = .ok (.aload_n 0, 1) := by decide +kernel
theorem dX5_anew_28 : decode cX5_anew 28 = .ok (.invokevirtual 82, 3) := by decide +kernel
theorem dX5_anew_31 : decode cX5_anew 31 = .ok (.aload_n 0, 1) := by decide +kernel
theorem dX5_anew_32 : decode cX5_anew 32 = .ok (.iconst 0, 1) := by decide +kernel
theorem dX5_anew_33 : decode cX5_anew 33 = .ok (.putfield 85, 3) := by decide +kernel
theorem dX5_anew_36 : decode cX5_anew 36 = .ok (.aload_n 0, 1) := by decide +kernel
theorem dX5_anew_37 : decode cX5_anew 37 = .ok (.iconst 0, 1) := by decide +kernel
theorem dX5_anew_38 : decode cX5_anew 38 = .ok (.putfield 88, 3) := by decide +kernel
theorem dX5_anew_41 : decode cX5_anew 41 = .ok (.aload_n 0, 1) := by decide +kernel
theorem dX5_anew_42 : decode cX5_anew 42 = .ok (.iconst 0, 1) := by decide +kernel
theorem dX5_anew_43 : decode cX5_anew 43 = .ok (.invokevirtual 91, 3) := by decide +kernel
theorem dX5_anew_46 : decode cX5_anew 46 = .ok (.aload_n 0, 1) := by decide +kernel
theorem dX5_anew_47 : decode cX5_anew 47 = .ok (.iconst 0, 1) := by decide +kernel
theorem dX5_anew_48 : decode cX5_anew 48 = .ok (.putfield 85, 3) := by decide +kernel
theorem dX5_anew_51 : decode cX5_anew 51 = .ok (.aload_n 0, 1) := by decide +kernel
theorem dX5_anew_52 : decode cX5_anew 52 = .ok (.iconst 1, 1) := by decide +kernel
theorem dX5_anew_53 : decode cX5_anew 53 = .ok (.putfield 94, 3) := by decide +kernel
theorem dX5_anew_56 : decode cX5_anew 56 = .ok (.return_, 1) := by decide +kernel
theorem dX5_thrown_0 : decode cX5_thrown 0 = .ok (.aload_n 0, 1) := by decide +kernel
theorem dX5_thrown_1 : decode cX5_thrown 1 = .ok (.getfield 75, 3) := by decide +kernel
theorem dX5_thrown_4 : decode cX5_thrown 4 = .ok (.ireturn, 1) := by decide +kernel
theorem dX5_in_0 : decode cX5_in 0 = .ok (.iload_n 0, 1) := by decide +kernel
theorem dX5_in_1 : decode cX5_in 1 = .ok (.iload_n 1, 1) := by decide +kernel
theorem dX5_in_2 : decode cX5_in 2 = .ok (.if_icmp .lt 12, 3) := by decide +kernel
theorem dX5_in_5 : decode cX5_in 5 = .ok (.iload_n 0, 1) := by decide +kernel
theorem dX5_in_6 : decode cX5_in 6 = .ok (.iload_n 2, 1) := by decide +kernel
theorem dX5_in_7 : decode cX5_in 7 = .ok (.if_icmp .gt 7, 3) := by decide +kernel
theorem dX5_in_10 : decode cX5_in 10 = .ok (.iconst 1, 1) := by decide +kernel
theorem dX5_in_11 : decode cX5_in 11 = .ok (.goto 4, 3) := by decide +kernel
theorem dX5_in_14 : decode cX5_in 14 = .ok (.iconst 0, 1) := by decide +kernel
theorem dX5_in_15 : decode cX5_in 15 = .ok (.ireturn, 1) := by decide +kernel
theorem dX5_forget_0 : decode cX5_forget 0 = .ok (.aload_n 0, 1) := by decide +kernel
theorem dX5_forget_1 : decode cX5_forget 1 = .ok (.iconst 0, 1) := by decide +kernel
theorem dX5_forget_2 : decode cX5_forget 2 = .ok (.putfield 98, 3) := by decide +kernel
theorem dX5_forget_5 : decode cX5_forget 5 = .ok (.aload_n 0, 1) := by decide +kernel
theorem dX5_forget_6 : decode cX5_forget 6 = .ok (.iconst 0, 1) := by decide +kernel
theorem dX5_forget_7 : decode cX5_forget 7 = .ok (.putfield 101, 3) := by decide +kernel
theorem dX5_forget_10 : decode cX5_forget 10 = .ok (.aload_n 0, 1) := by decide +kernel
theorem dX5_forget_11 : decode cX5_forget 11 = .ok (.iconst 0, 1) := by decide +kernel
theorem dX5_forget_12 : decode cX5_forget 12 = .ok (.putfield 104, 3) := by decide +kernel
theorem dX5_forget_15 : decode cX5_forget 15 = .ok (.aload_n 0, 1) := by decide +kernel
theorem dX5_forget_16 : decode cX5_forget 16 = .ok (.iconst 0, 1) := by decide +kernel
theorem dX5_forget_17 : decode cX5_forget 17 = .ok (.putfield 107, 3) := by decide +kernel
theorem dX5_forget_20 : decode cX5_forget 20 = .ok (.aload_n 0, 1) := by decide +kernel
theorem dX5_forget_21 : decode cX5_forget 21 = .ok (.iconst 0, 1) := by decide +kernel
theorem dX5_forget_22 : decode cX5_forget 22 = .ok (.putfield 110, 3) := by decide +kernel
theorem dX5_forget_25 : decode cX5_forget 25 = .ok (.aload_n 0, 1) := by decide +kernel
theorem dX5_forget_26 : decode cX5_forget 26 = .ok (.iconst 0, 1) := by decide +kernel
theorem dX5_forget_27 : decode cX5_forget 27 = .ok (.putfield 113, 3) := by decide +kernel
theorem dX5_forget_30 : decode cX5_forget 30 = .ok (.iconst 0, 1) := by decide +kernel
theorem dX5_forget_31 : decode cX5_forget 31 = .ok (.istore_n 1, 1) := by decide +kernel
theorem dX5_forget_32 : decode cX5_forget 32 = .ok (.iload_n 1, 1) := by decide +kernel
theorem dX5_forget_33 : decode cX5_forget 33 = .ok (.bipush 64, 2) := by decide +kernel
theorem dX5_forget_35 : decode cX5_forget 35 = .ok (.if_icmp .ge 16, 3) := by decide +kernel
theorem dX5_forget_38 : decode cX5_forget 38 = .ok (.aload_n 0, 1) := by decide +kernel
theorem dX5_forget_39 : decode cX5_forget 39 = .ok (.getfield 20, 3) := by decide +kernel
theorem dX5_forget_42 : decode cX5_forget 42 = .ok (.iload_n 1, 1) := by decide +kernel
theorem dX5_forget_43 : decode cX5_forget 43 = .ok (.lconst 0, 1) := by decide +kernel
theorem dX5_forget_44 : decode cX5_forget 44 = .ok (.lastore, 1) := by decide +kernel
theorem dX5_forget_45 : decode cX5_forget 45 = .ok (.iinc 1 1, 3) := by decide +kernel
theorem dX5_forget_48 : decode cX5_forget 48 = .ok (.goto (-16), 3) := by decide +kernel
theorem dX5_forget_51 : decode cX5_forget 51 = .ok (.iconst 0, 1) := by decide +kernel
theorem dX5_forget_52 : decode cX5_forget 52 = .ok (.istore_n 1, 1) := by decide +kernel
theorem dX5_forget_53 : decode cX5_forget 53 = .ok (.iload_n 1, 1) := by decide +kernel
theorem dX5_forget_54 : decode cX5_forget 54 = .ok (.ldc 24, 2) := by decide +kernel
theorem dX5_forget_56 : decode cX5_forget 56 = .ok (.if_icmp .ge 16, 3) := by decide +kernel
theorem dX5_forget_59 : decode cX5_forget 59 = .ok (.aload_n 0, 1) := by decide +kernel
theorem dX5_forget_60 : decode cX5_forget 60 = .ok (.getfield 25, 3) := by decide +kernel
theorem dX5_forget_63 : decode cX5_forget 63 = .ok (.iload_n 1, 1) := by decide +kernel
theorem dX5_forget_64 : decode cX5_forget 64 = .ok (.iconst (-1), 1) := by decide +kernel
theorem dX5_forget_65 : decode cX5_forget 65 = .ok (.iastore, 1) := by decide +kernel
theorem dX5_forget_66 : decode cX5_forget 66 = .ok (.iinc 1 1, 3) := by decide +kernel
theorem dX5_forget_69 : decode cX5_forget 69 = .ok (.goto (-16), 3) := by decide +kernel
theorem dX5_forget_72 : decode cX5_forget 72 = .ok (.iconst 0, 1) := by decide +kernel
theorem dX5_forget_73 : decode cX5_forget 73 = .ok (.istore_n 1, 1) := by decide +kernel
theorem dX5_forget_74 : decode cX5_forget 74 = .ok (.iload_n 1, 1) := by decide +kernel
theorem dX5_forget_75 : decode cX5_forget 75 = .ok (.bipush 100, 2) := by decide +kernel
theorem dX5_forget_77 : decode cX5_forget 77 = .ok (.if_icmp .ge 16, 3) := by decide +kernel
theorem dX5_forget_80 : decode cX5_forget 80 = .ok (.aload_n 0, 1) := by decide +kernel
theorem dX5_forget_81 : decode cX5_forget 81 = .ok (.getfield 31, 3) := by decide +kernel
theorem dX5_forget_84 : decode cX5_forget 84 = .ok (.iload_n 1, 1) := by decide +kernel
theorem dX5_forget_85 : decode cX5_forget 85 = .ok (.iconst 0, 1) := by decide +kernel
theorem dX5_forget_86 : decode cX5_forget 86 = .ok (.bastore, 1) := by decide +kernel
theorem dX5_forget_87 : decode cX5_forget 87 = .ok (.iinc 1 1, 3) := by decide +kernel
theorem dX5_forget_90 : decode cX5_forget 90 = .ok (.goto (-16), 3) := by decide +kernel
theorem dX5_forget_93 : decode cX5_forget 93 = .ok (.return_, 1) := by decide +kernel
theorem dX5_put_0 : decode cX5_put 0 = .ok (.aload_n 0, 1) := by decide +kernel
theorem dX5_put_1 : decode cX5_put 1 = .ok (.getfield 14, 3) := by decide +kernel
theorem dX5_put_4 : decode cX5_put 4 = .ok (.aload_n 0, 1) := by decide +kernel
theorem dX5_put_5 : decode cX5_put 5 = .ok (.getfield 85, 3) := by decide +kernel
theorem dX5_put_8 : decode cX5_put 8 = .ok (.iload_n 1, 1) := by decide +kernel
theorem dX5_put_9 : decode cX5_put 9 = .ok (.iastore, 1) := by decide +kernel
theorem dX5_put_10 : decode cX5_put 10 = .ok (.aload_n 0, 1) := by decide +kernel
theorem dX5_put_11 : decode cX5_put 11 = .ok (.getfield 17, 3) := by decide +kernel
theorem dX5_put_14 : decode cX5_put 14 = .ok (.aload_n 0, 1) := by decide +kernel
theorem dX5_put_15 : decode cX5_put 15 = .ok (.getfield 85, 3) := by decide +kernel
theorem dX5_put_18 : decode cX5_put 18 = .ok (.aload_n 0, 1) := by decide +kernel
theorem dX5_put_19 : decode cX5_put 19 = .ok (.getfield 7, 3) := by decide +kernel
theorem dX5_put_22 : decode cX5_put 22 = .ok (.iload_n 1, 1) := by decide +kernel
theorem dX5_put_23 : decode cX5_put 23 = .ok (.iaload, 1) := by decide +kernel
theorem dX5_put_24 : decode cX5_put 24 = .ok (.iastore, 1) := by decide +kernel
theorem dX5_put_25 : decode cX5_put 25 = .ok (.aload_n 0, 1) := by decide +kernel
theorem dX5_put_26 : decode cX5_put 26 = .ok (.dup, 1) := by decide +kernel
theorem dX5_put_27 : decode cX5_put 27 = .ok (.getfield 85, 3) := by decide +kernel
theorem dX5_put_30 : decode cX5_put 30 = .ok (.iconst 1, 1) := by decide +kernel
theorem dX5_put_31 : decode cX5_put 31 = .ok (.iadd, 1) := by decide +kernel
theorem dX5_put_32 : decode cX5_put 32 = .ok (.putfield 85, 3) := by decide +kernel
theorem dX5_put_35 : decode cX5_put 35 = .ok (.aload_n 0, 1) := by decide +kernel
theorem dX5_put_36 : decode cX5_put 36 = .ok (.getfield 7, 3) := by decide +kernel
theorem dX5_put_39 : decode cX5_put 39 = .ok (.iload_n 1, 1) := by decide +kernel
theorem dX5_put_40 : decode cX5_put 40 = .ok (.iload_n 2, 1) := by decide +kernel
theorem dX5_put_41 : decode cX5_put 41 = .ok (.sipush 255, 3) := by decide +kernel
theorem dX5_put_44 : decode cX5_put 44 = .ok (.iand, 1) := by decide +kernel
theorem dX5_put_45 : decode cX5_put 45 = .ok (.iastore, 1) := by decide +kernel
theorem dX5_put_46 : decode cX5_put 46 = .ok (.return_, 1) := by decide +kernel
theorem dX5_number_0 : decode cX5_number 0 = .ok (.lconst 0, 1) := by decide +kernel
theorem dX5_number_1 : decode cX5_number 1 = .ok (.lstore_n 3, 1) := by decide +kernel
theorem dX5_number_2 : decode cX5_number 2 = .ok (.iconst 0, 1) := by decide +kernel
theorem dX5_number_3 : decode cX5_number 3 = .ok (.istore 5, 2) := by decide +kernel
theorem dX5_number_5 : decode cX5_number 5 = .ok (.iload 5, 2) := by decide +kernel
theorem dX5_number_7 : decode cX5_number 7 = .ok (.iload_n 2, 1) := by decide +kernel
theorem dX5_number_8 : decode cX5_number 8 = .ok (.if_icmp .ge 25, 3) := by decide +kernel
theorem dX5_number_11 : decode cX5_number 11 = .ok (.lload_n 3, 1) := by decide +kernel
theorem dX5_number_12 : decode cX5_number 12 = .ok (.bipush 8, 2) := by decide +kernel
theorem dX5_number_14 : decode cX5_number 14 = .ok (.lshl, 1) := by decide +kernel
theorem dX5_number_15 : decode cX5_number 15 = .ok (.aload_n 0, 1) := by decide +kernel
theorem dX5_number_16 : decode cX5_number 16 = .ok (.getfield 7, 3) := by decide +kernel
theorem dX5_number_19 : decode cX5_number 19 = .ok (.iload_n 1, 1) := by decide +kernel
theorem dX5_number_20 : decode cX5_number 20 = .ok (.iload 5, 2) := by decide +kernel
theorem dX5_number_22 : decode cX5_number 22 = .ok (.iadd, 1) := by decide +kernel
theorem dX5_number_23 : decode cX5_number 23 = .ok (.iaload, 1) := by decide +kernel
theorem dX5_number_24 : decode cX5_number 24 = .ok (.i2l, 1) := by decide +kernel
theorem dX5_number_25 : decode cX5_number 25 = .ok (.lor, 1) := by decide +kernel
theorem dX5_number_26 : decode cX5_number 26 = .ok (.lstore_n 3, 1) := by decide +kernel
theorem dX5_number_27 : decode cX5_number 27 = .ok (.iinc 5 1, 3) := by decide +kernel
theorem dX5_number_30 : decode cX5_number 30 = .ok (.goto (-25), 3) := by decide +kernel
theorem dX5_number_33 : decode cX5_number 33 = .ok (.lload_n 3, 1) := by decide +kernel
theorem dX5_number_34 : decode cX5_number 34 = .ok (.lreturn, 1) := by decide +kernel
theorem dX5_sum_0 : decode cX5_sum 0 = .ok (.lload_n 1, 1) := by decide +kernel
theorem dX5_sum_1 : decode cX5_sum 1 = .ok (.lstore 5, 2) := by decide +kernel
theorem dX5_sum_3 : decode cX5_sum 3 = .ok (.iconst 0, 1) := by decide +kernel
theorem dX5_sum_4 : decode cX5_sum 4 = .ok (.istore 7, 2) := by decide +kernel
theorem dX5_sum_6 : decode cX5_sum 6 = .ok (.iload 7, 2) := by decide +kernel
theorem dX5_sum_8 : decode cX5_sum 8 = .ok (.iload 4, 2) := by decide +kernel
theorem dX5_sum_10 : decode cX5_sum 10 = .ok (.if_icmp .ge 45, 3) := by decide +kernel
theorem dX5_sum_13 : decode cX5_sum 13 = .ok (.lload 5, 2) := by decide +kernel
theorem dX5_sum_15 : decode cX5_sum 15 = .ok (.aload_n 0, 1) := by decide +kernel
theorem dX5_sum_16 : decode cX5_sum 16 = .ok (.getfield 7, 3) := by decide +kernel
theorem dX5_sum_19 : decode cX5_sum 19 = .ok (.iload_n 3, 1) := by decide +kernel
theorem dX5_sum_20 : decode cX5_sum 20 = .ok (.iload 7, 2) := by decide +kernel
theorem dX5_sum_22 : decode cX5_sum 22 = .ok (.iadd, 1) := by decide +kernel
theorem dX5_sum_23 : decode cX5_sum 23 = .ok (.iaload, 1) := by decide +kernel
theorem dX5_sum_24 : decode cX5_sum 24 = .ok (.i2l, 1) := by decide +kernel
theorem dX5_sum_25 : decode cX5_sum 25 = .ok (.lxor, 1) := by decide +kernel
theorem dX5_sum_26 : decode cX5_sum 26 = .ok (.lstore 5, 2) := by decide +kernel
theorem dX5_sum_28 : decode cX5_sum 28 = .ok (.lload 5, 2) := by decide +kernel
theorem dX5_sum_30 : decode cX5_sum 30 = .ok (.bipush 29, 2) := by decide +kernel
theorem dX5_sum_32 : decode cX5_sum 32 = .ok (.lshl, 1) := by decide +kernel
theorem dX5_sum_33 : decode cX5_sum 33 = .ok (.lload 5, 2) := by decide +kernel
theorem dX5_sum_35 : decode cX5_sum 35 = .ok (.bipush 35, 2) := by decide +kernel
theorem dX5_sum_37 : decode cX5_sum 37 = .ok (.lushr, 1) := by decide +kernel
theorem dX5_sum_38 : decode cX5_sum 38 = .ok (.lor, 1) := by decide +kernel
theorem dX5_sum_39 : decode cX5_sum 39 = .ok (.lstore 5, 2) := by decide +kernel
theorem dX5_sum_41 : decode cX5_sum 41 = .ok (.lload 5, 2) := by decide +kernel
theorem dX5_sum_43 : decode cX5_sum 43 = .ok (.ldc2_w 116, 3) := by decide +kernel
theorem dX5_sum_46 : decode cX5_sum 46 = .ok (.lmul, 1) := by decide +kernel
theorem dX5_sum_47 : decode cX5_sum 47 = .ok (.lstore 5, 2) := by decide +kernel
theorem dX5_sum_49 : decode cX5_sum 49 = .ok (.iinc 7 1, 3) := by decide +kernel
theorem dX5_sum_52 : decode cX5_sum 52 = .ok (.goto (-46), 3) := by decide +kernel
theorem dX5_sum_55 : decode cX5_sum 55 = .ok (.lload 5, 2) := by decide +kernel
theorem dX5_sum_57 : decode cX5_sum 57 = .ok (.lreturn, 1) := by decide +kernel
theorem dX5_putNumber_0 : decode cX5_putNumber 0 = .ok (.iconst 0, 1) := by decide +kernel
theorem dX5_putNumber_1 : decode cX5_putNumber 1 = .ok (.istore 5, 2) := by decide +kernel
theorem dX5_putNumber_3 : decode cX5_putNumber 3 = .ok (.iload 5, 2) := by decide +kernel
theorem dX5_putNumber_5 : decode cX5_putNumber 5 = .ok (.iload 4, 2) := by decide +kernel
theorem dX5_putNumber_7 : decode cX5_putNumber 7 = .ok (.if_icmp .ge 34, 3) := by decide +kernel
theorem dX5_putNumber_10 : decode cX5_putNumber 10 = .ok (.aload_n 0, 1) := by decide +kernel
theorem dX5_putNumber_11 : decode cX5_putNumber 11 = .ok (.iload_n 1, 1) := by decide +kernel
theorem dX5_putNumber_12 : decode cX5_putNumber 12 = .ok (.iload 5, 2) := by decide +kernel
theorem dX5_putNumber_14 : decode cX5_putNumber 14 = .ok (.iadd, 1) := by decide +kernel
theorem dX5_putNumber_15 : decode cX5_putNumber 15 = .ok (.lload_n 2, 1) := by decide +kernel
theorem dX5_putNumber_16 : decode cX5_putNumber 16 = .ok (.bipush 8, 2) := by decide +kernel
theorem dX5_putNumber_18 : decode cX5_putNumber 18 = .ok (.iload 4, 2) := by decide +kernel
theorem dX5_putNumber_20 : decode cX5_putNumber 20 = .ok (.iconst 1, 1) := by decide +kernel
theorem dX5_putNumber_21 : decode cX5_putNumber 21 = .ok (.isub, 1) := by decide +kernel
theorem dX5_putNumber_22 : decode cX5_putNumber 22 = .ok (.iload 5, 2) := by decide +kernel
theorem dX5_putNumber_24 : decode cX5_putNumber 24 = .ok (.isub, 1) := by decide +kernel
theorem dX5_putNumber_25 : decode cX5_putNumber 25 = .ok (.imul, 1) := by decide +kernel
theorem dX5_putNumber_26 : decode cX5_putNumber 26 = .ok (.lshr, 1) := by decide +kernel
theorem dX5_putNumber_27 : decode cX5_putNumber 27 = .ok (.l2i, 1) := by decide +kernel
theorem dX5_putNumber_28 : decode cX5_putNumber 28 = .ok (.sipush 255, 3) := by decide +kernel
theorem dX5_putNumber_31 : decode cX5_putNumber 31 = .ok (.iand, 1) := by decide +kernel
theorem dX5_putNumber_32 : decode cX5_putNumber 32 = .ok (.invokevirtual 118, 3) := by decide +kernel
theorem dX5_putNumber_35 : decode cX5_putNumber 35 = .ok (.iinc 5 1, 3) := by decide +kernel
theorem dX5_putNumber_38 : decode cX5_putNumber 38 = .ok (.goto (-35), 3) := by decide +kernel
theorem dX5_putNumber_41 : decode cX5_putNumber 41 = .ok (.return_, 1) := by decide +kernel
theorem dX5_putHead_0 : decode cX5_putHead 0 = .ok (.iload_n 1, 1) := by decide +kernel
theorem dX5_putHead_1 : decode cX5_putHead 1 = .ok (.iconst 2, 1) := by decide +kernel
theorem dX5_putHead_2 : decode cX5_putHead 2 = .ok (.irem, 1) := by decide +kernel
theorem dX5_putHead_3 : decode cX5_putHead 3 = .ok (.ifCond .ne 7, 3) := by decide +kernel
theorem dX5_putHead_6 : decode cX5_putHead 6 = .ok (.iconst 0, 1) := by decide +kernel
theorem dX5_putHead_7 : decode cX5_putHead 7 = .ok (.goto 5, 3) := by decide +kernel
theorem dX5_putHead_10 : decode cX5_putHead 10 = .ok (.bipush 16, 2) := by decide +kernel
theorem dX5_putHead_12 : decode cX5_putHead 12 = .ok (.istore_n 2, 1) := by decide +kernel
theorem dX5_putHead_13 : decode cX5_putHead 13 = .ok (.aload_n 0, 1) := by decide +kernel
theorem dX5_putHead_14 : decode cX5_putHead 14 = .ok (.iload_n 2, 1) := by decide +kernel
theorem dX5_putHead_15 : decode cX5_putHead 15 = .ok (.iload_n 1, 1) := by decide +kernel
theorem dX5_putHead_16 : decode cX5_putHead 16 = .ok (.i2l, 1) := by decide +kernel
theorem dX5_putHead_17 : decode cX5_putHead 17 = .ok (.iconst 4, 1) := by decide +kernel
theorem dX5_putHead_18 : decode cX5_putHead 18 = .ok (.invokevirtual 122, 3) := by decide +kernel
theorem dX5_putHead_21 : decode cX5_putHead 21 = .ok (.aload_n 0, 1) := by decide +kernel
theorem dX5_putHead_22 : decode cX5_putHead 22 = .ok (.iload_n 2, 1) := by decide +kernel
theorem dX5_putHead_23 : decode cX5_putHead 23 = .ok (.iconst 4, 1) := by decide +kernel
theorem dX5_putHead_24 : decode cX5_putHead 24 = .ok (.iadd, 1) := by decide +kernel
theorem dX5_putHead_25 : decode cX5_putHead 25 = .ok (.aload_n 0, 1) := by decide +kernel
theorem dX5_putHead_26 : decode cX5_putHead 26 = .ok (.getfield 98, 3) := by decide +kernel
theorem dX5_putHead_29 : decode cX5_putHead 29 = .ok (.i2l, 1) := by decide +kernel
theorem dX5_putHead_30 : decode cX5_putHead 30 = .ok (.iconst 4, 1) := by decide +kernel
theorem dX5_putHead_31 : decode cX5_putHead 31 = .ok (.invokevirtual 122, 3) := by decide +kernel
theorem dX5_putHead_34 : decode cX5_putHead 34 = .ok (.aload_n 0, 1) := by decide +kernel
theorem dX5_putHead_35 : decode cX5_putHead 35 = .ok (.iload_n 2, 1) := by decide +kernel
theorem dX5_putHead_36 : decode cX5_putHead 36 = .ok (.bipush 8, 2) := by decide +kernel
theorem dX5_putHead_38 : decode cX5_putHead 38 = .ok (.iadd, 1) := by decide +kernel
theorem dX5_putHead_39 : decode cX5_putHead 39 = .ok (.aload_n 0, 1) := by decide +kernel
theorem dX5_putHead_40 : decode cX5_putHead 40 = .ok (.lconst 1, 1) := by decide +kernel
theorem dX5_putHead_41 : decode cX5_putHead 41 = .ok (.iload_n 2, 1) := by decide +kernel
theorem dX5_putHead_42 : decode cX5_putHead 42 = .ok (.bipush 8, 2) := by decide +kernel
theorem dX5_putHead_44 : decode cX5_putHead 44 = .ok (.invokevirtual 126, 3) := by decide +kernel
theorem dX5_putHead_47 : decode cX5_putHead 47 = .ok (.bipush 8, 2) := by decide +kernel
theorem dX5_putHead_49 : decode cX5_putHead 49 = .ok (.invokevirtual 122, 3) := by decide +kernel
theorem dX5_putHead_52 : decode cX5_putHead 52 = .ok (.return_, 1) := by decide +kernel
theorem dX5_begin__0 : decode cX5_begin_ 0 = .ok (.bipush 32, 2) := by decide +kernel
theorem dX5_begin__2 : decode cX5_begin_ 2 = .ok (.aload_n 0, 1) := by decide +kernel
theorem dX5_begin__3 : decode cX5_begin_ 3 = .ok (.getfield 98, 3) := by decide +kernel
theorem dX5_begin__6 : decode cX5_begin_ 6 = .ok (.iadd, 1) := by decide +kernel
theorem dX5_begin__7 : decode cX5_begin_ 7 = .ok (.istore 4, 2) := by decide +kernel
theorem dX5_begin__9 : decode cX5_begin_ 9 = .ok (.aload_n 0, 1) := by decide +kernel
theorem dX5_begin__10 : decode cX5_begin_ 10 = .ok (.iload 4, 2) := by decide +kernel
theorem dX5_begin__12 : decode cX5_begin_ 12 = .ok (.iload_n 1, 1) := by decide +kernel
theorem dX5_begin__13 : decode cX5_begin_ 13 = .ok (.invokevirtual 118, 3) := by decide +kernel
theorem dX5_begin__16 : decode cX5_begin_ 16 = .ok (.aload_n 0, 1) := by decide +kernel
theorem dX5_begin__17 : decode cX5_begin_ 17 = .ok (.iload 4, 2) := by decide +kernel
theorem dX5_begin__19 : decode cX5_begin_ 19 = .ok (.iconst 1, 1) := by decide +kernel
theorem dX5_begin__20 : decode cX5_begin_ 20 = .ok (.iadd, 1) := by decide +kernel
theorem dX5_begin__21 : decode cX5_begin_ 21 = .ok (.iload_n 2, 1) := by decide +kernel
theorem dX5_begin__22 : decode cX5_begin_ 22 = .ok (.i2l, 1) := by decide +kernel
theorem dX5_begin__23 : decode cX5_begin_ 23 = .ok (.iconst 2, 1) := by decide +kernel
theorem dX5_begin__24 : decode cX5_begin_ 24 = .ok (.invokevirtual 122, 3) := by decide +kernel
theorem dX5_begin__27 : decode cX5_begin_ 27 = .ok (.aload_n 0, 1) := by decide +kernel
theorem dX5_begin__28 : decode cX5_begin_ 28 = .ok (.iload 4, 2) := by decide +kernel
theorem dX5_begin__30 : decode cX5_begin_ 30 = .ok (.iconst 3, 1) := by decide +kernel
theorem dX5_begin__31 : decode cX5_begin_ 31 = .ok (.iadd, 1) := by decide +kernel
theorem dX5_begin__32 : decode cX5_begin_ 32 = .ok (.iload_n 3, 1) := by decide +kernel
theorem dX5_begin__33 : decode cX5_begin_ 33 = .ok (.invokevirtual 118, 3) := by decide +kernel
theorem dX5_begin__36 : decode cX5_begin_ 36 = .ok (.iload 4, 2) := by decide +kernel
theorem dX5_begin__38 : decode cX5_begin_ 38 = .ok (.iconst 4, 1) := by decide +kernel
theorem dX5_begin__39 : decode cX5_begin_ 39 = .ok (.iadd, 1) := by decide +kernel
theorem dX5_begin__40 : decode cX5_begin_ 40 = .ok (.ireturn, 1) := by decide +kernel
theorem dX5_end_0 : decode cX5_end 0 = .ok (.bipush 32, 2) := by decide +kernel
theorem dX5_end_2 : decode cX5_end 2 = .ok (.aload_n 0, 1) := by decide +kernel
theorem dX5_end_3 : decode cX5_end 3 = .ok (.getfield 98, 3) := by decide +kernel
theorem dX5_end_6 : decode cX5_end 6 = .ok (.iadd, 1) := by decide +kernel
theorem dX5_end_7 : decode cX5_end 7 = .ok (.istore_n 2, 1) := by decide +kernel
theorem dX5_end_8 : decode cX5_end 8 = .ok (.aload_n 0, 1) := by decide +kernel
theorem dX5_end_9 : decode cX5_end 9 = .ok (.iload_n 2, 1) := by decide +kernel
theorem dX5_end_10 : decode cX5_end 10 = .ok (.iconst 4, 1) := by decide +kernel
theorem dX5_end_11 : decode cX5_end 11 = .ok (.iadd, 1) := by decide +kernel
theorem dX5_end_12 : decode cX5_end 12 = .ok (.iload_n 1, 1) := by decide +kernel
theorem dX5_end_13 : decode cX5_end 13 = .ok (.iadd, 1) := by decide +kernel
theorem dX5_end_14 : decode cX5_end 14 = .ok (.aload_n 0, 1) := by decide +kernel
theorem dX5_end_15 : decode cX5_end 15 = .ok (.iload_n 2, 1) := by decide +kernel
theorem dX5_end_16 : decode cX5_end 16 = .ok (.i2l, 1) := by decide +kernel
theorem dX5_end_17 : decode cX5_end 17 = .ok (.iload_n 2, 1) := by decide +kernel
theorem dX5_end_18 : decode cX5_end 18 = .ok (.iconst 4, 1) := by decide +kernel
theorem dX5_end_19 : decode cX5_end 19 = .ok (.iload_n 1, 1) := by decide +kernel
theorem dX5_end_20 : decode cX5_end 20 = .ok (.iadd, 1) := by decide +kernel
theorem dX5_end_21 : decode cX5_end 21 = .ok (.invokevirtual 126, 3) := by decide +kernel
theorem dX5_end_24 : decode cX5_end 24 = .ok (.bipush 8, 2) := by decide +kernel
theorem dX5_end_26 : decode cX5_end 26 = .ok (.invokevirtual 122, 3) := by decide +kernel
theorem dX5_end_29 : decode cX5_end 29 = .ok (.aload_n 0, 1) := by decide +kernel
theorem dX5_end_30 : decode cX5_end 30 = .ok (.iload_n 2, 1) := by decide +kernel
theorem dX5_end_31 : decode cX5_end 31 = .ok (.iload_n 1, 1) := by decide +kernel
theorem dX5_end_32 : decode cX5_end 32 = .ok (.invokevirtual 130, 3) := by decide +kernel
theorem dX5_end_35 : decode cX5_end 35 = .ok (.return_, 1) := by decide +kernel
theorem dX5_sizeOf_0 : decode cX5_sizeOf 0 = .ok (.iload_n 0, 1) := by decide +kernel
theorem dX5_sizeOf_1 : decode cX5_sizeOf 1 = .ok (.iconst 1, 1) := by decide +kernel
theorem dX5_sizeOf_2 : decode cX5_sizeOf 2 = .ok (.if_icmp .ne 8, 3) := by decide +kernel
theorem dX5_sizeOf_5 : decode cX5_sizeOf 5 = .ok (.bipush 64, 2) := by decide +kernel
theorem dX5_sizeOf_7 : decode cX5_sizeOf 7 = .ok (.goto 33, 3) := by decide +kernel
theorem dX5_sizeOf_10 : decode cX5_sizeOf 10 = .ok (.iload_n 0, 1) := by decide +kernel
theorem dX5_sizeOf_11 : decode cX5_sizeOf 11 = .ok (.iconst 2, 1) := by decide +kernel
theorem dX5_sizeOf_12 : decode cX5_sizeOf 12 = .ok (.if_icmp .ne 7, 3) := by decide +kernel
theorem dX5_sizeOf_15 : decode cX5_sizeOf 15 = .ok (.iconst 3, 1) := by decide +kernel
theorem dX5_sizeOf_16 : decode cX5_sizeOf 16 = .ok (.goto 24, 3) := by decide +kernel
theorem dX5_sizeOf_19 : decode cX5_sizeOf 19 = .ok (.iload_n 0, 1) := by decide +kernel
theorem dX5_sizeOf_20 : decode cX5_sizeOf 20 = .ok (.iconst 3, 1) := by decide +kernel
theorem dX5_sizeOf_21 : decode cX5_sizeOf 21 = .ok (.if_icmp .ne 8, 3) := by decide +kernel
theorem dX5_sizeOf_24 : decode cX5_sizeOf 24 = .ok (.bipush 16, 2) := by decide +kernel
theorem dX5_sizeOf_26 : decode cX5_sizeOf 26 = .ok (.goto 14, 3) := by decide +kernel
theorem dX5_sizeOf_29 : decode cX5_sizeOf 29 = .ok (.iload_n 0, 1) := by decide +kernel
theorem dX5_sizeOf_30 : decode cX5_sizeOf 30 = .ok (.iconst 4, 1) := by decide +kernel
theorem dX5_sizeOf_31 : decode cX5_sizeOf 31 = .ok (.if_icmp .ne 8, 3) := by decide +kernel
theorem dX5_sizeOf_34 : decode cX5_sizeOf 34 = .ok (.bipush 10, 2) := by decide +kernel
theorem dX5_sizeOf_36 : decode cX5_sizeOf 36 = .ok (.goto 4, 3) := by decide +kernel
theorem dX5_sizeOf_39 : decode cX5_sizeOf 39 = .ok (.iconst 0, 1) := by decide +kernel
theorem dX5_sizeOf_40 : decode cX5_sizeOf 40 = .ok (.ireturn, 1) := by decide +kernel
theorem dX5_isThere_0 : decode cX5_isThere 0 = .ok (.iload_n 1, 1) := by decide +kernel
theorem dX5_isThere_1 : decode cX5_isThere 1 = .ok (.iconst 0, 1) := by decide +kernel
theorem dX5_isThere_2 : decode cX5_isThere 2 = .ok (.aload_n 0, 1) := by decide +kernel
theorem dX5_isThere_3 : decode cX5_isThere 3 = .ok (.getfield 110, 3) := by decide +kernel
theorem dX5_isThere_6 : decode cX5_isThere 6 = .ok (.iconst 1, 1) := by decide +kernel
theorem dX5_isThere_7 : decode cX5_isThere 7 = .ok (.isub, 1) := by decide +kernel
theorem dX5_isThere_8 : decode cX5_isThere 8 = .ok (.invokestatic 133, 3) := by decide +kernel
theorem dX5_isThere_11 : decode cX5_isThere 11 = .ok (.ifCond .eq 16, 3) := by decide +kernel
theorem dX5_isThere_14 : decode cX5_isThere 14 = .ok (.aload_n 0, 1) := by decide +kernel
theorem dX5_isThere_15 : decode cX5_isThere 15 = .ok (.getfield 31, 3) := by decide +kernel
theorem dX5_isThere_18 : decode cX5_isThere 18 = .ok (.iload_n 1, 1) := by decide +kernel
theorem dX5_isThere_19 : decode cX5_isThere 19 = .ok (.baload, 1) := by decide +kernel
theorem dX5_isThere_20 : decode cX5_isThere 20 = .ok (.ifCond .eq 7, 3) := by decide +kernel
theorem dX5_isThere_23 : decode cX5_isThere 23 = .ok (.iconst 1, 1) := by decide +kernel
theorem dX5_isThere_24 : decode cX5_isThere 24 = .ok (.goto 4, 3) := by decide +kernel
theorem dX5_isThere_27 : decode cX5_isThere 27 = .ok (.iconst 0, 1) := by decide +kernel
theorem dX5_isThere_28 : decode cX5_isThere 28 = .ok (.ireturn, 1) := by decide +kernel
theorem dX5_namedBy_0 : decode cX5_namedBy 0 = .ok (.iconst 0, 1) := by decide +kernel
theorem dX5_namedBy_1 : decode cX5_namedBy 1 = .ok (.istore_n 2, 1) := by decide +kernel
theorem dX5_namedBy_2 : decode cX5_namedBy 2 = .ok (.iconst 0, 1) := by decide +kernel
theorem dX5_namedBy_3 : decode cX5_namedBy 3 = .ok (.istore_n 3, 1) := by decide +kernel
theorem dX5_namedBy_4 : decode cX5_namedBy 4 = .ok (.iload_n 3, 1) := by decide +kernel
theorem dX5_namedBy_5 : decode cX5_namedBy 5 = .ok (.aload_n 0, 1) := by decide +kernel
theorem dX5_namedBy_6 : decode cX5_namedBy 6 = .ok (.getfield 110, 3) := by decide +kernel
theorem dX5_namedBy_9 : decode cX5_namedBy 9 = .ok (.if_icmp .ge 78, 3) := by decide +kernel
theorem dX5_namedBy_12 : decode cX5_namedBy 12 = .ok (.iconst 0, 1) := by decide +kernel
theorem dX5_namedBy_13 : decode cX5_namedBy 13 = .ok (.istore 4, 2) := by decide +kernel
theorem dX5_namedBy_15 : decode cX5_namedBy 15 = .ok (.iconst 0, 1) := by decide +kernel
theorem dX5_namedBy_16 : decode cX5_namedBy 16 = .ok (.istore 5, 2) := by decide +kernel
theorem dX5_namedBy_18 : decode cX5_namedBy 18 = .ok (.iload 5, 2) := by decide +kernel
theorem dX5_namedBy_20 : decode cX5_namedBy 20 = .ok (.bipush 8, 2) := by decide +kernel
theorem dX5_namedBy_22 : decode cX5_namedBy 22 = .ok (.if_icmp .ge 46, 3) := by decide +kernel
theorem dX5_namedBy_25 : decode cX5_namedBy 25 = .ok (.iload 4, 2) := by decide +kernel
theorem dX5_namedBy_27 : decode cX5_namedBy 27 = .ok (.ifCond .ne 28, 3) := by decide +kernel
theorem dX5_namedBy_30 : decode cX5_namedBy 30 = .ok (.aload_n 0, 1) := by decide +kernel
theorem dX5_namedBy_31 : decode cX5_namedBy 31 = .ok (.getfield 31, 3) := by decide +kernel
theorem dX5_namedBy_34 : decode cX5_namedBy 34 = .ok (.iload_n 3, 1) := by decide +kernel
theorem dX5_namedBy_35 : decode cX5_namedBy 35 = .ok (.baload, 1) := by decide +kernel
theorem dX5_namedBy_36 : decode cX5_namedBy 36 = .ok (.ifCond .eq 23, 3) := by decide +kernel
theorem dX5_namedBy_39 : decode cX5_namedBy 39 = .ok (.aload_n 0, 1) := by decide +kernel
theorem dX5_namedBy_40 : decode cX5_namedBy 40 = .ok (.getfield 35, 3) := by decide +kernel
theorem dX5_namedBy_43 : decode cX5_namedBy 43 = .ok (.bipush 8, 2) := by decide +kernel
theorem dX5_namedBy_45 : decode cX5_namedBy 45 = .ok (.iload_n 3, 1) := by decide +kernel
theorem dX5_namedBy_46 : decode cX5_namedBy 46 = .ok (.imul, 1) := by decide +kernel
theorem dX5_namedBy_47 : decode cX5_namedBy 47 = .ok (.iload 5, 2) := by decide +kernel
theorem dX5_namedBy_49 : decode cX5_namedBy 49 = .ok (.iadd, 1) := by decide +kernel
theorem dX5_namedBy_50 : decode cX5_namedBy 50 = .ok (.iaload, 1) := by decide +kernel
theorem dX5_namedBy_51 : decode cX5_namedBy 51 = .ok (.iload_n 1, 1) := by decide +kernel
theorem dX5_namedBy_52 : decode cX5_namedBy 52 = .ok (.if_icmp .ne 7, 3) := by decide +kernel
theorem dX5_namedBy_55 : decode cX5_namedBy 55 = .ok (.iconst 1, 1) := by decide +kernel
theorem dX5_namedBy_56 : decode cX5_namedBy 56 = .ok (.goto 4, 3) := by decide +kernel
theorem dX5_namedBy_59 : decode cX5_namedBy 59 = .ok (.iconst 0, 1) := by decide +kernel
theorem dX5_namedBy_60 : decode cX5_namedBy 60 = .ok (.istore 4, 2) := by decide +kernel
theorem dX5_namedBy_62 : decode cX5_namedBy 62 = .ok (.iinc 5 1, 3) := by decide +kernel
theorem dX5_namedBy_65 : decode cX5_namedBy 65 = .ok (.goto (-47), 3) := by decide +kernel
theorem dX5_namedBy_68 : decode cX5_namedBy 68 = .ok (.iload_n 2, 1) := by decide +kernel
theorem dX5_namedBy_69 : decode cX5_namedBy 69 = .ok (.iload 4, 2) := by decide +kernel
theorem dX5_namedBy_71 : decode cX5_namedBy 71 = .ok (.ifCond .eq 7, 3) := by decide +kernel
theorem dX5_namedBy_74 : decode cX5_namedBy 74 = .ok (.iconst 1, 1) := by decide +kernel
theorem dX5_namedBy_75 : decode cX5_namedBy 75 = .ok (.goto 4, 3) := by decide +kernel
theorem dX5_namedBy_78 : decode cX5_namedBy 78 = .ok (.iconst 0, 1) := by decide +kernel
theorem dX5_namedBy_79 : decode cX5_namedBy 79 = .ok (.iadd, 1) := by decide +kernel
theorem dX5_namedBy_80 : decode cX5_namedBy 80 = .ok (.istore_n 2, 1) := by decide +kernel
theorem dX5_namedBy_81 : decode cX5_namedBy 81 = .ok (.iinc 3 1, 3) := by decide +kernel
theorem dX5_namedBy_84 : decode cX5_namedBy 84 = .ok (.goto (-80), 3) := by decide +kernel
theorem dX5_namedBy_87 : decode cX5_namedBy 87 = .ok (.iload_n 2, 1) := by decide +kernel
theorem dX5_namedBy_88 : decode cX5_namedBy 88 = .ok (.ireturn, 1) := by decide +kernel
theorem dX5_hasNow_0 : decode cX5_hasNow 0 = .ok (.aload_n 0, 1) := by decide +kernel
theorem dX5_hasNow_1 : decode cX5_hasNow 1 = .ok (.getfield 20, 3) := by decide +kernel
theorem dX5_hasNow_4 : decode cX5_hasNow 4 = .ok (.iload_n 1, 1) := by decide +kernel
theorem dX5_hasNow_5 : decode cX5_hasNow 5 = .ok (.laload, 1) := by decide +kernel
theorem dX5_hasNow_6 : decode cX5_hasNow 6 = .ok (.iload_n 2, 1) := by decide +kernel
theorem dX5_hasNow_7 : decode cX5_hasNow 7 = .ok (.lushr, 1) := by decide +kernel
theorem dX5_hasNow_8 : decode cX5_hasNow 8 = .ok (.lconst 1, 1) := by decide +kernel
theorem dX5_hasNow_9 : decode cX5_hasNow 9 = .ok (.land, 1) := by decide +kernel
theorem dX5_hasNow_10 : decode cX5_hasNow 10 = .ok (.lconst 1, 1) := by decide +kernel
theorem dX5_hasNow_11 : decode cX5_hasNow 11 = .ok (.lcmp, 1) := by decide +kernel
theorem dX5_hasNow_12 : decode cX5_hasNow 12 = .ok (.ifCond .ne 7, 3) := by decide +kernel
theorem dX5_hasNow_15 : decode cX5_hasNow 15 = .ok (.iconst 1, 1) := by decide +kernel
theorem dX5_hasNow_16 : decode cX5_hasNow 16 = .ok (.goto 4, 3) := by decide +kernel
theorem dX5_hasNow_19 : decode cX5_hasNow 19 = .ok (.iconst 0, 1) := by decide +kernel
theorem dX5_hasNow_20 : decode cX5_hasNow 20 = .ok (.ireturn, 1) := by decide +kernel
theorem dX5_isRight_0 : decode cX5_isRight 0 = .ok (.iload_n 2, 1) := by decide +kernel
theorem dX5_isRight_1 : decode cX5_isRight 1 = .ok (.iload_n 1, 1) := by decide +kernel
theorem dX5_isRight_2 : decode cX5_isRight 2 = .ok (.isub, 1) := by decide +kernel
theorem dX5_isRight_3 : decode cX5_isRight 3 = .ok (.bipush 12, 2) := by decide +kernel
theorem dX5_isRight_5 : decode cX5_isRight 5 = .ok (.if_icmp .ge 5, 3) := by decide +kernel
theorem dX5_isRight_8 : decode cX5_isRight 8 = .ok (.iconst 0, 1) := by decide +kernel
theorem dX5_isRight_9 : decode cX5_isRight 9 = .ok (.ireturn, 1) := by decide +kernel
theorem dX5_isRight_10 : decode cX5_isRight 10 = .ok (.aload_n 0, 1) := by decide +kernel
theorem dX5_isRight_11 : decode cX5_isRight 11 = .ok (.getfield 7, 3) := by decide +kernel
theorem dX5_isRight_14 : decode cX5_isRight 14 = .ok (.iload_n 1, 1) := by decide +kernel
theorem dX5_isRight_15 : decode cX5_isRight 15 = .ok (.iaload, 1) := by decide +kernel
theorem dX5_isRight_16 : decode cX5_isRight 16 = .ok (.istore_n 3, 1) := by decide +kernel
theorem dX5_isRight_17 : decode cX5_isRight 17 = .ok (.aload_n 0, 1) := by decide +kernel
theorem dX5_isRight_18 : decode cX5_isRight 18 = .ok (.iload_n 1, 1) := by decide +kernel
theorem dX5_isRight_19 : decode cX5_isRight 19 = .ok (.iconst 1, 1) := by decide +kernel
theorem dX5_isRight_20 : decode cX5_isRight 20 = .ok (.iadd, 1) := by decide +kernel
theorem dX5_isRight_21 : decode cX5_isRight 21 = .ok (.iconst 2, 1) := by decide +kernel
theorem dX5_isRight_22 : decode cX5_isRight 22 = .ok (.invokevirtual 137, 3) := by decide +kernel
theorem dX5_isRight_25 : decode cX5_isRight 25 = .ok (.l2i, 1) := by decide +kernel
theorem dX5_isRight_26 : decode cX5_isRight 26 = .ok (.istore 4, 2) := by decide +kernel
theorem dX5_isRight_28 : decode cX5_isRight 28 = .ok (.aload_n 0, 1) := by decide +kernel
theorem dX5_isRight_29 : decode cX5_isRight 29 = .ok (.getfield 7, 3) := by decide +kernel
theorem dX5_isRight_32 : decode cX5_isRight 32 = .ok (.iload_n 1, 1) := by decide +kernel
theorem dX5_isRight_33 : decode cX5_isRight 33 = .ok (.iconst 3, 1) := by decide +kernel
theorem dX5_isRight_34 : decode cX5_isRight 34 = .ok (.iadd, 1) := by decide +kernel
theorem dX5_isRight_35 : decode cX5_isRight 35 = .ok (.iaload, 1) := by decide +kernel
theorem dX5_isRight_36 : decode cX5_isRight 36 = .ok (.istore 5, 2) := by decide +kernel
theorem dX5_isRight_38 : decode cX5_isRight 38 = .ok (.iload_n 3, 1) := by decide +kernel
theorem dX5_isRight_39 : decode cX5_isRight 39 = .ok (.iconst 1, 1) := by decide +kernel
theorem dX5_isRight_40 : decode cX5_isRight 40 = .ok (.iconst 5, 1) := by decide +kernel
theorem dX5_isRight_41 : decode cX5_isRight 41 = .ok (.invokestatic 133, 3) := by decide +kernel
theorem dX5_isRight_44 : decode cX5_isRight 44 = .ok (.ifCond .eq 23, 3) := by decide +kernel
theorem dX5_isRight_47 : decode cX5_isRight 47 = .ok (.iload 5, 2) := by decide +kernel
theorem dX5_isRight_49 : decode cX5_isRight 49 = .ok (.iload_n 3, 1) := by decide +kernel
theorem dX5_isRight_50 : decode cX5_isRight 50 = .ok (.invokestatic 141, 3) := by decide +kernel
theorem dX5_isRight_53 : decode cX5_isRight 53 = .ok (.if_icmp .ne 14, 3) := by decide +kernel
theorem dX5_isRight_56 : decode cX5_isRight 56 = .ok (.iload_n 1, 1) := by decide +kernel
theorem dX5_isRight_57 : decode cX5_isRight 57 = .ok (.bipush 12, 2) := by decide +kernel
theorem dX5_isRight_59 : decode cX5_isRight 59 = .ok (.iadd, 1) := by decide +kernel
theorem dX5_isRight_60 : decode cX5_isRight 60 = .ok (.iload 5, 2) := by decide +kernel
theorem dX5_isRight_62 : decode cX5_isRight 62 = .ok (.iadd, 1) := by decide +kernel
theorem dX5_isRight_63 : decode cX5_isRight 63 = .ok (.iload_n 2, 1) := by decide +kernel
theorem dX5_isRight_64 : decode cX5_isRight 64 = .ok (.if_icmp .le 5, 3) := by decide +kernel
theorem dX5_isRight_67 : decode cX5_isRight 67 = .ok (.iconst 0, 1) := by decide +kernel
theorem dX5_isRight_68 : decode cX5_isRight 68 = .ok (.ireturn, 1) := by decide +kernel
theorem dX5_isRight_69 : decode cX5_isRight 69 = .ok (.aload_n 0, 1) := by decide +kernel
theorem dX5_isRight_70 : decode cX5_isRight 70 = .ok (.iload_n 1, 1) := by decide +kernel
theorem dX5_isRight_71 : decode cX5_isRight 71 = .ok (.iconst 4, 1) := by decide +kernel
theorem dX5_isRight_72 : decode cX5_isRight 72 = .ok (.iadd, 1) := by decide +kernel
theorem dX5_isRight_73 : decode cX5_isRight 73 = .ok (.iload 5, 2) := by decide +kernel
theorem dX5_isRight_75 : decode cX5_isRight 75 = .ok (.iadd, 1) := by decide +kernel
theorem dX5_isRight_76 : decode cX5_isRight 76 = .ok (.bipush 8, 2) := by decide +kernel
theorem dX5_isRight_78 : decode cX5_isRight 78 = .ok (.invokevirtual 137, 3) := by decide +kernel
theorem dX5_isRight_81 : decode cX5_isRight 81 = .ok (.aload_n 0, 1) := by decide +kernel
theorem dX5_isRight_82 : decode cX5_isRight 82 = .ok (.iload_n 1, 1) := by decide +kernel
theorem dX5_isRight_83 : decode cX5_isRight 83 = .ok (.i2l, 1) := by decide +kernel
theorem dX5_isRight_84 : decode cX5_isRight 84 = .ok (.iload_n 1, 1) := by decide +kernel
theorem dX5_isRight_85 : decode cX5_isRight 85 = .ok (.iconst 4, 1) := by decide +kernel
theorem dX5_isRight_86 : decode cX5_isRight 86 = .ok (.iload 5, 2) := by decide +kernel
theorem dX5_isRight_88 : decode cX5_isRight 88 = .ok (.iadd, 1) := by decide +kernel
theorem dX5_isRight_89 : decode cX5_isRight 89 = .ok (.invokevirtual 126, 3) := by decide +kernel
theorem dX5_isRight_92 : decode cX5_isRight 92 = .ok (.lcmp, 1) := by decide +kernel
theorem dX5_isRight_93 : decode cX5_isRight 93 = .ok (.ifCond .eq 5, 3) := by decide +kernel
theorem dX5_isRight_96 : decode cX5_isRight 96 = .ok (.iconst 0, 1) := by decide +kernel
theorem dX5_isRight_97 : decode cX5_isRight 97 = .ok (.ireturn, 1) := by decide +kernel
theorem dX5_isRight_98 : decode cX5_isRight 98 = .ok (.iload_n 1, 1) := by decide +kernel
theorem dX5_isRight_99 : decode cX5_isRight 99 = .ok (.iconst 4, 1) := by decide +kernel
theorem dX5_isRight_100 : decode cX5_isRight 100 = .ok (.iadd, 1) := by decide +kernel
theorem dX5_isRight_101 : decode cX5_isRight 101 = .ok (.istore 6, 2) := by decide +kernel
theorem dX5_isRight_103 : decode cX5_isRight 103 = .ok (.iload_n 3, 1) := by decide +kernel
theorem dX5_isRight_104 : decode cX5_isRight 104 = .ok (.iconst 1, 1) := by decide +kernel
theorem dX5_isRight_105 : decode cX5_isRight 105 = .ok (.if_icmp .ne 27, 3) := by decide +kernel
theorem dX5_isRight_108 : decode cX5_isRight 108 = .ok (.iload 4, 2) := by decide +kernel
theorem dX5_isRight_110 : decode cX5_isRight 110 = .ok (.aload_n 0, 1) := by decide +kernel
theorem dX5_isRight_111 : decode cX5_isRight 111 = .ok (.getfield 79, 3) := by decide +kernel
theorem dX5_isRight_114 : decode cX5_isRight 114 = .ok (.if_icmp .ge 16, 3) := by decide +kernel
theorem dX5_isRight_117 : decode cX5_isRight 117 = .ok (.aload_n 0, 1) := by decide +kernel
theorem dX5_isRight_118 : decode cX5_isRight 118 = .ok (.iload 4, 2) := by decide +kernel
theorem dX5_isRight_120 : decode cX5_isRight 120 = .ok (.invokevirtual 145, 3) := by decide +kernel
theorem dX5_isRight_123 : decode cX5_isRight 123 = .ok (.ifCond .ne 7, 3) := by decide +kernel
theorem dX5_isRight_126 : decode cX5_isRight 126 = .ok (.iconst 1, 1) := by decide +kernel
theorem dX5_isRight_127 : decode cX5_isRight 127 = .ok (.goto 4, 3) := by decide +kernel
theorem dX5_isRight_130 : decode cX5_isRight 130 = .ok (.iconst 0, 1) := by decide +kernel
theorem dX5_isRight_131 : decode cX5_isRight 131 = .ok (.ireturn, 1) := by decide +kernel
theorem dX5_isRight_132 : decode cX5_isRight 132 = .ok (.iload_n 3, 1) := by decide +kernel
theorem dX5_isRight_133 : decode cX5_isRight 133 = .ok (.iconst 2, 1) := by decide +kernel
theorem dX5_isRight_134 : decode cX5_isRight 134 = .ok (.if_icmp .ne 98, 3) := by decide +kernel
theorem dX5_isRight_137 : decode cX5_isRight 137 = .ok (.iload 4, 2) := by decide +kernel
theorem dX5_isRight_139 : decode cX5_isRight 139 = .ok (.aload_n 0, 1) := by decide +kernel
theorem dX5_isRight_140 : decode cX5_isRight 140 = .ok (.getfield 104, 3) := by decide +kernel
theorem dX5_isRight_143 : decode cX5_isRight 143 = .ok (.if_icmp .ne 87, 3) := by decide +kernel
theorem dX5_isRight_146 : decode cX5_isRight 146 = .ok (.aload_n 0, 1) := by decide +kernel
theorem dX5_isRight_147 : decode cX5_isRight 147 = .ok (.getfield 7, 3) := by decide +kernel
theorem dX5_isRight_150 : decode cX5_isRight 150 = .ok (.iload 6, 2) := by decide +kernel
theorem dX5_isRight_152 : decode cX5_isRight 152 = .ok (.iaload, 1) := by decide +kernel
theorem dX5_isRight_153 : decode cX5_isRight 153 = .ok (.bipush 64, 2) := by decide +kernel
theorem dX5_isRight_155 : decode cX5_isRight 155 = .ok (.if_icmp .ge 75, 3) := by decide +kernel
theorem dX5_isRight_158 : decode cX5_isRight 158 = .ok (.aload_n 0, 1) := by decide +kernel
theorem dX5_isRight_159 : decode cX5_isRight 159 = .ok (.getfield 7, 3) := by decide +kernel
theorem dX5_isRight_162 : decode cX5_isRight 162 = .ok (.iload 6, 2) := by decide +kernel
theorem dX5_isRight_164 : decode cX5_isRight 164 = .ok (.iconst 1, 1) := by decide +kernel
theorem dX5_isRight_165 : decode cX5_isRight 165 = .ok (.iadd, 1) := by decide +kernel
theorem dX5_isRight_166 : decode cX5_isRight 166 = .ok (.iaload, 1) := by decide +kernel
theorem dX5_isRight_167 : decode cX5_isRight 167 = .ok (.bipush 64, 2) := by decide +kernel
theorem dX5_isRight_169 : decode cX5_isRight 169 = .ok (.if_icmp .ge 61, 3) := by decide +kernel
theorem dX5_isRight_172 : decode cX5_isRight 172 = .ok (.aload_n 0, 1) := by decide +kernel
theorem dX5_isRight_173 : decode cX5_isRight 173 = .ok (.getfield 7, 3) := by decide +kernel
theorem dX5_isRight_176 : decode cX5_isRight 176 = .ok (.iload 6, 2) := by decide +kernel
theorem dX5_isRight_178 : decode cX5_isRight 178 = .ok (.iconst 2, 1) := by decide +kernel
theorem dX5_isRight_179 : decode cX5_isRight 179 = .ok (.iadd, 1) := by decide +kernel
theorem dX5_isRight_180 : decode cX5_isRight 180 = .ok (.iaload, 1) := by decide +kernel
theorem dX5_isRight_181 : decode cX5_isRight 181 = .ok (.iconst 2, 1) := by decide +kernel
theorem dX5_isRight_182 : decode cX5_isRight 182 = .ok (.if_icmp .ge 48, 3) := by decide +kernel
theorem dX5_isRight_185 : decode cX5_isRight 185 = .ok (.aload_n 0, 1) := by decide +kernel
theorem dX5_isRight_186 : decode cX5_isRight 186 = .ok (.aload_n 0, 1) := by decide +kernel
theorem dX5_isRight_187 : decode cX5_isRight 187 = .ok (.getfield 7, 3) := by decide +kernel
theorem dX5_isRight_190 : decode cX5_isRight 190 = .ok (.iload 6, 2) := by decide +kernel
theorem dX5_isRight_192 : decode cX5_isRight 192 = .ok (.iaload, 1) := by decide +kernel
theorem dX5_isRight_193 : decode cX5_isRight 193 = .ok (.aload_n 0, 1) := by decide +kernel
theorem dX5_isRight_194 : decode cX5_isRight 194 = .ok (.getfield 7, 3) := by decide +kernel
theorem dX5_isRight_197 : decode cX5_isRight 197 = .ok (.iload 6, 2) := by decide +kernel
theorem dX5_isRight_199 : decode cX5_isRight 199 = .ok (.iconst 1, 1) := by decide +kernel
theorem dX5_isRight_200 : decode cX5_isRight 200 = .ok (.iadd, 1) := by decide +kernel
theorem dX5_isRight_201 : decode cX5_isRight 201 = .ok (.iaload, 1) := by decide +kernel
theorem dX5_isRight_202 : decode cX5_isRight 202 = .ok (.invokevirtual 148, 3) := by decide +kernel
theorem dX5_isRight_205 : decode cX5_isRight 205 = .ok (.aload_n 0, 1) := by decide +kernel
theorem dX5_isRight_206 : decode cX5_isRight 206 = .ok (.getfield 7, 3) := by decide +kernel
theorem dX5_isRight_209 : decode cX5_isRight 209 = .ok (.iload 6, 2) := by decide +kernel
theorem dX5_isRight_211 : decode cX5_isRight 211 = .ok (.iconst 2, 1) := by decide +kernel
theorem dX5_isRight_212 : decode cX5_isRight 212 = .ok (.iadd, 1) := by decide +kernel
theorem dX5_isRight_213 : decode cX5_isRight 213 = .ok (.iaload, 1) := by decide +kernel
theorem dX5_isRight_214 : decode cX5_isRight 214 = .ok (.iconst 1, 1) := by decide +kernel
theorem dX5_isRight_215 : decode cX5_isRight 215 = .ok (.if_icmp .ne 7, 3) := by decide +kernel
theorem dX5_isRight_218 : decode cX5_isRight 218 = .ok (.iconst 1, 1) := by decide +kernel
theorem dX5_isRight_219 : decode cX5_isRight 219 = .ok (.goto 4, 3) := by decide +kernel
theorem dX5_isRight_222 : decode cX5_isRight 222 = .ok (.iconst 0, 1) := by decide +kernel
theorem dX5_isRight_223 : decode cX5_isRight 223 = .ok (.if_icmp .eq 7, 3) := by decide +kernel
theorem dX5_isRight_226 : decode cX5_isRight 226 = .ok (.iconst 1, 1) := by decide +kernel
theorem dX5_isRight_227 : decode cX5_isRight 227 = .ok (.goto 4, 3) := by decide +kernel
theorem dX5_isRight_230 : decode cX5_isRight 230 = .ok (.iconst 0, 1) := by decide +kernel
theorem dX5_isRight_231 : decode cX5_isRight 231 = .ok (.ireturn, 1) := by decide +kernel
theorem dX5_isRight_232 : decode cX5_isRight 232 = .ok (.iload_n 3, 1) := by decide +kernel
theorem dX5_isRight_233 : decode cX5_isRight 233 = .ok (.iconst 4, 1) := by decide +kernel
theorem dX5_isRight_234 : decode cX5_isRight 234 = .ok (.if_icmp .ne 55, 3) := by decide +kernel
theorem dX5_isRight_237 : decode cX5_isRight 237 = .ok (.iload 4, 2) := by decide +kernel
theorem dX5_isRight_239 : decode cX5_isRight 239 = .ok (.aload_n 0, 1) := by decide +kernel
theorem dX5_isRight_240 : decode cX5_isRight 240 = .ok (.getfield 113, 3) := by decide +kernel
theorem dX5_isRight_243 : decode cX5_isRight 243 = .ok (.if_icmp .ne 44, 3) := by decide +kernel
theorem dX5_isRight_246 : decode cX5_isRight 246 = .ok (.aload_n 0, 1) := by decide +kernel
theorem dX5_isRight_247 : decode cX5_isRight 247 = .ok (.getfield 113, 3) := by decide +kernel
theorem dX5_isRight_250 : decode cX5_isRight 250 = .ok (.bipush 100, 2) := by decide +kernel
theorem dX5_isRight_252 : decode cX5_isRight 252 = .ok (.if_icmp .ge 35, 3) := by decide +kernel
theorem dX5_isRight_255 : decode cX5_isRight 255 = .ok (.aload_n 0, 1) := by decide +kernel
theorem dX5_isRight_256 : decode cX5_isRight 256 = .ok (.aload_n 0, 1) := by decide +kernel
theorem dX5_isRight_257 : decode cX5_isRight 257 = .ok (.getfield 7, 3) := by decide +kernel
theorem dX5_isRight_260 : decode cX5_isRight 260 = .ok (.iload 6, 2) := by decide +kernel
theorem dX5_isRight_262 : decode cX5_isRight 262 = .ok (.iaload, 1) := by decide +kernel
theorem dX5_isRight_263 : decode cX5_isRight 263 = .ok (.invokevirtual 152, 3) := by decide +kernel
theorem dX5_isRight_266 : decode cX5_isRight 266 = .ok (.ifCond .eq 21, 3) := by decide +kernel
theorem dX5_isRight_269 : decode cX5_isRight 269 = .ok (.aload_n 0, 1) := by decide +kernel
theorem dX5_isRight_270 : decode cX5_isRight 270 = .ok (.getfield 7, 3) := by decide +kernel
theorem dX5_isRight_273 : decode cX5_isRight 273 = .ok (.iload 6, 2) := by decide +kernel
theorem dX5_isRight_275 : decode cX5_isRight 275 = .ok (.iconst 1, 1) := by decide +kernel
theorem dX5_isRight_276 : decode cX5_isRight 276 = .ok (.iadd, 1) := by decide +kernel
theorem dX5_isRight_277 : decode cX5_isRight 277 = .ok (.iaload, 1) := by decide +kernel
theorem dX5_isRight_278 : decode cX5_isRight 278 = .ok (.bipush 64, 2) := by decide +kernel
theorem dX5_isRight_280 : decode cX5_isRight 280 = .ok (.if_icmp .ge 7, 3) := by decide +kernel
theorem dX5_isRight_283 : decode cX5_isRight 283 = .ok (.iconst 1, 1) := by decide +kernel
theorem dX5_isRight_284 : decode cX5_isRight 284 = .ok (.goto 4, 3) := by decide +kernel
theorem dX5_isRight_287 : decode cX5_isRight 287 = .ok (.iconst 0, 1) := by decide +kernel
theorem dX5_isRight_288 : decode cX5_isRight 288 = .ok (.ireturn, 1) := by decide +kernel
theorem dX5_isRight_289 : decode cX5_isRight 289 = .ok (.iload_n 3, 1) := by decide +kernel
theorem dX5_isRight_290 : decode cX5_isRight 290 = .ok (.iconst 5, 1) := by decide +kernel
theorem dX5_isRight_291 : decode cX5_isRight 291 = .ok (.if_icmp .ne 10, 3) := by decide +kernel
theorem dX5_isRight_294 : decode cX5_isRight 294 = .ok (.aload_n 0, 1) := by decide +kernel
theorem dX5_isRight_295 : decode cX5_isRight 295 = .ok (.iload 4, 2) := by decide +kernel
theorem dX5_isRight_297 : decode cX5_isRight 297 = .ok (.invokevirtual 152, 3) := by decide +kernel
theorem dX5_isRight_300 : decode cX5_isRight 300 = .ok (.ireturn, 1) := by decide +kernel
theorem dX5_isRight_301 : decode cX5_isRight 301 = .ok (.iload 4, 2) := by decide +kernel
theorem dX5_isRight_303 : decode cX5_isRight 303 = .ok (.aload_n 0, 1) := by decide +kernel
theorem dX5_isRight_304 : decode cX5_isRight 304 = .ok (.getfield 110, 3) := by decide +kernel
theorem dX5_isRight_307 : decode cX5_isRight 307 = .ok (.if_icmp .ne 16, 3) := by decide +kernel
theorem dX5_isRight_310 : decode cX5_isRight 310 = .ok (.aload_n 0, 1) := by decide +kernel
theorem dX5_isRight_311 : decode cX5_isRight 311 = .ok (.getfield 110, 3) := by decide +kernel
theorem dX5_isRight_314 : decode cX5_isRight 314 = .ok (.bipush 100, 2) := by decide +kernel
theorem dX5_isRight_316 : decode cX5_isRight 316 = .ok (.if_icmp .ge 7, 3) := by decide +kernel
theorem dX5_isRight_319 : decode cX5_isRight 319 = .ok (.iconst 1, 1) := by decide +kernel
theorem dX5_isRight_320 : decode cX5_isRight 320 = .ok (.goto 4, 3) := by decide +kernel
theorem dX5_isRight_323 : decode cX5_isRight 323 = .ok (.iconst 0, 1) := by decide +kernel
theorem dX5_isRight_324 : decode cX5_isRight 324 = .ok (.istore 7, 2) := by decide +kernel
theorem dX5_isRight_326 : decode cX5_isRight 326 = .ok (.iconst 0, 1) := by decide +kernel
theorem dX5_isRight_327 : decode cX5_isRight 327 = .ok (.istore 8, 2) := by decide +kernel
theorem dX5_isRight_329 : decode cX5_isRight 329 = .ok (.iload 8, 2) := by decide +kernel
theorem dX5_isRight_331 : decode cX5_isRight 331 = .ok (.bipush 8, 2) := by decide +kernel
theorem dX5_isRight_333 : decode cX5_isRight 333 = .ok (.if_icmp .ge 43, 3) := by decide +kernel
theorem dX5_isRight_336 : decode cX5_isRight 336 = .ok (.iload 7, 2) := by decide +kernel
theorem dX5_isRight_338 : decode cX5_isRight 338 = .ok (.ifCond .eq 29, 3) := by decide +kernel
theorem dX5_isRight_341 : decode cX5_isRight 341 = .ok (.aload_n 0, 1) := by decide +kernel
theorem dX5_isRight_342 : decode cX5_isRight 342 = .ok (.getfield 25, 3) := by decide +kernel
theorem dX5_isRight_345 : decode cX5_isRight 345 = .ok (.aload_n 0, 1) := by decide +kernel
theorem dX5_isRight_346 : decode cX5_isRight 346 = .ok (.iload 6, 2) := by decide +kernel
theorem dX5_isRight_348 : decode cX5_isRight 348 = .ok (.iconst 2, 1) := by decide +kernel
theorem dX5_isRight_349 : decode cX5_isRight 349 = .ok (.iload 8, 2) := by decide +kernel
theorem dX5_isRight_351 : decode cX5_isRight 351 = .ok (.imul, 1) := by decide +kernel
theorem dX5_isRight_352 : decode cX5_isRight 352 = .ok (.iadd, 1) := by decide +kernel
theorem dX5_isRight_353 : decode cX5_isRight 353 = .ok (.iconst 2, 1) := by decide +kernel
theorem dX5_isRight_354 : decode cX5_isRight 354 = .ok (.invokevirtual 137, 3) := by decide +kernel
theorem dX5_isRight_357 : decode cX5_isRight 357 = .ok (.l2i, 1) := by decide +kernel
theorem dX5_isRight_358 : decode cX5_isRight 358 = .ok (.iaload, 1) := by decide +kernel
theorem dX5_isRight_359 : decode cX5_isRight 359 = .ok (.iconst (-1), 1) := by decide +kernel
theorem dX5_isRight_360 : decode cX5_isRight 360 = .ok (.if_icmp .eq 7, 3) := by decide +kernel
theorem dX5_isRight_363 : decode cX5_isRight 363 = .ok (.iconst 1, 1) := by decide +kernel
theorem dX5_isRight_364 : decode cX5_isRight 364 = .ok (.goto 4, 3) := by decide +kernel
theorem dX5_isRight_367 : decode cX5_isRight 367 = .ok (.iconst 0, 1) := by decide +kernel
theorem dX5_isRight_368 : decode cX5_isRight 368 = .ok (.istore 7, 2) := by decide +kernel
theorem dX5_isRight_370 : decode cX5_isRight 370 = .ok (.iinc 8 1, 3) := by decide +kernel
theorem dX5_isRight_373 : decode cX5_isRight 373 = .ok (.goto (-44), 3) := by decide +kernel
theorem dX5_isRight_376 : decode cX5_isRight 376 = .ok (.iload 7, 2) := by decide +kernel
theorem dX5_isRight_378 : decode cX5_isRight 378 = .ok (.ireturn, 1) := by decide +kernel
theorem dX5_take_0 : decode cX5_take 0 = .ok (.aload_n 0, 1) := by decide +kernel
theorem dX5_take_1 : decode cX5_take 1 = .ok (.getfield 7, 3) := by decide +kernel
theorem dX5_take_4 : decode cX5_take 4 = .ok (.iload_n 1, 1) := by decide +kernel
theorem dX5_take_5 : decode cX5_take 5 = .ok (.iaload, 1) := by decide +kernel
theorem dX5_take_6 : decode cX5_take 6 = .ok (.istore_n 3, 1) := by decide +kernel
theorem dX5_take_7 : decode cX5_take 7 = .ok (.aload_n 0, 1) := by decide +kernel
theorem dX5_take_8 : decode cX5_take 8 = .ok (.iload_n 1, 1) := by decide +kernel
theorem dX5_take_9 : decode cX5_take 9 = .ok (.iconst 1, 1) := by decide +kernel
theorem dX5_take_10 : decode cX5_take 10 = .ok (.iadd, 1) := by decide +kernel
theorem dX5_take_11 : decode cX5_take 11 = .ok (.iconst 2, 1) := by decide +kernel
theorem dX5_take_12 : decode cX5_take 12 = .ok (.invokevirtual 137, 3) := by decide +kernel
theorem dX5_take_15 : decode cX5_take 15 = .ok (.l2i, 1) := by decide +kernel
theorem dX5_take_16 : decode cX5_take 16 = .ok (.istore 4, 2) := by decide +kernel
theorem dX5_take_18 : decode cX5_take 18 = .ok (.iload_n 1, 1) := by decide +kernel
theorem dX5_take_19 : decode cX5_take 19 = .ok (.iconst 4, 1) := by decide +kernel
theorem dX5_take_20 : decode cX5_take 20 = .ok (.iadd, 1) := by decide +kernel
theorem dX5_take_21 : decode cX5_take 21 = .ok (.istore 5, 2) := by decide +kernel
theorem dX5_take_23 : decode cX5_take 23 = .ok (.iload_n 3, 1) := by decide +kernel
theorem dX5_take_24 : decode cX5_take 24 = .ok (.iconst 1, 1) := by decide +kernel
theorem dX5_take_25 : decode cX5_take 25 = .ok (.if_icmp .ne 72, 3) := by decide +kernel
theorem dX5_take_28 : decode cX5_take 28 = .ok (.aload_n 0, 1) := by decide +kernel
theorem dX5_take_29 : decode cX5_take 29 = .ok (.getfield 25, 3) := by decide +kernel
theorem dX5_take_32 : decode cX5_take 32 = .ok (.iload 4, 2) := by decide +kernel
theorem dX5_take_34 : decode cX5_take 34 = .ok (.aload_n 0, 1) := by decide +kernel
theorem dX5_take_35 : decode cX5_take 35 = .ok (.getfield 107, 3) := by decide +kernel
theorem dX5_take_38 : decode cX5_take 38 = .ok (.iastore, 1) := by decide +kernel
theorem dX5_take_39 : decode cX5_take 39 = .ok (.iconst 0, 1) := by decide +kernel
theorem dX5_take_40 : decode cX5_take 40 = .ok (.istore 6, 2) := by decide +kernel
theorem dX5_take_42 : decode cX5_take 42 = .ok (.iload 6, 2) := by decide +kernel
theorem dX5_take_44 : decode cX5_take 44 = .ok (.bipush 8, 2) := by decide +kernel
theorem dX5_take_46 : decode cX5_take 46 = .ok (.if_icmp .ge 38, 3) := by decide +kernel
theorem dX5_take_49 : decode cX5_take 49 = .ok (.aload_n 0, 1) := by decide +kernel
theorem dX5_take_50 : decode cX5_take 50 = .ok (.getfield 28, 3) := by decide +kernel
theorem dX5_take_53 : decode cX5_take 53 = .ok (.bipush 8, 2) := by decide +kernel
theorem dX5_take_55 : decode cX5_take 55 = .ok (.aload_n 0, 1) := by decide +kernel
theorem dX5_take_56 : decode cX5_take 56 = .ok (.getfield 107, 3) := by decide +kernel
theorem dX5_take_59 : decode cX5_take 59 = .ok (.imul, 1) := by decide +kernel
theorem dX5_take_60 : decode cX5_take 60 = .ok (.iload 6, 2) := by decide +kernel
theorem dX5_take_62 : decode cX5_take 62 = .ok (.iadd, 1) := by decide +kernel
theorem dX5_take_63 : decode cX5_take 63 = .ok (.aload_n 0, 1) := by decide +kernel
theorem dX5_take_64 : decode cX5_take 64 = .ok (.iload 5, 2) := by decide +kernel
theorem dX5_take_66 : decode cX5_take 66 = .ok (.bipush 8, 2) := by decide +kernel
theorem dX5_take_68 : decode cX5_take 68 = .ok (.iload 6, 2) := by decide +kernel
theorem dX5_take_70 : decode cX5_take 70 = .ok (.imul, 1) := by decide +kernel
theorem dX5_take_71 : decode cX5_take 71 = .ok (.iadd, 1) := by decide +kernel
theorem dX5_take_72 : decode cX5_take 72 = .ok (.bipush 8, 2) := by decide +kernel
theorem dX5_take_74 : decode cX5_take 74 = .ok (.invokevirtual 137, 3) := by decide +kernel
theorem dX5_take_77 : decode cX5_take 77 = .ok (.lastore, 1) := by decide +kernel
theorem dX5_take_78 : decode cX5_take 78 = .ok (.iinc 6 1, 3) := by decide +kernel
theorem dX5_take_81 : decode cX5_take 81 = .ok (.goto (-39), 3) := by decide +kernel
theorem dX5_take_84 : decode cX5_take 84 = .ok (.aload_n 0, 1) := by decide +kernel
theorem dX5_take_85 : decode cX5_take 85 = .ok (.dup, 1) := by decide +kernel
theorem dX5_take_86 : decode cX5_take 86 = .ok (.getfield 107, 3) := by decide +kernel
theorem dX5_take_89 : decode cX5_take 89 = .ok (.iconst 1, 1) := by decide +kernel
theorem dX5_take_90 : decode cX5_take 90 = .ok (.iadd, 1) := by decide +kernel
theorem dX5_take_91 : decode cX5_take 91 = .ok (.putfield 107, 3) := by decide +kernel
theorem dX5_take_94 : decode cX5_take 94 = .ok (.goto 194, 3) := by decide +kernel
theorem dX5_take_97 : decode cX5_take 97 = .ok (.iload_n 3, 1) := by decide +kernel
theorem dX5_take_98 : decode cX5_take 98 = .ok (.iconst 2, 1) := by decide +kernel
theorem dX5_take_99 : decode cX5_take 99 = .ok (.if_icmp .ne 56, 3) := by decide +kernel
theorem dX5_take_102 : decode cX5_take 102 = .ok (.lconst 1, 1) := by decide +kernel
theorem dX5_take_103 : decode cX5_take 103 = .ok (.aload_n 0, 1) := by decide +kernel
theorem dX5_take_104 : decode cX5_take 104 = .ok (.getfield 7, 3) := by decide +kernel
theorem dX5_take_107 : decode cX5_take 107 = .ok (.iload 5, 2) := by decide +kernel
theorem dX5_take_109 : decode cX5_take 109 = .ok (.iconst 1, 1) := by decide +kernel
theorem dX5_take_110 : decode cX5_take 110 = .ok (.iadd, 1) := by decide +kernel
theorem dX5_take_111 : decode cX5_take 111 = .ok (.iaload, 1) := by decide +kernel
theorem dX5_take_112 : decode cX5_take 112 = .ok (.lshl, 1) := by decide +kernel
theorem dX5_take_113 : decode cX5_take 113 = .ok (.lstore 6, 2) := by decide +kernel
theorem dX5_take_115 : decode cX5_take 115 = .ok (.aload_n 0, 1) := by decide +kernel
theorem dX5_take_116 : decode cX5_take 116 = .ok (.getfield 20, 3) := by decide +kernel
theorem dX5_take_119 : decode cX5_take 119 = .ok (.aload_n 0, 1) := by decide +kernel
theorem dX5_take_120 : decode cX5_take 120 = .ok (.getfield 7, 3) := by decide +kernel
theorem dX5_take_123 : decode cX5_take 123 = .ok (.iload 5, 2) := by decide +kernel
theorem dX5_take_125 : decode cX5_take 125 = .ok (.iaload, 1) := by decide +kernel
theorem dX5_take_126 : decode cX5_take 126 = .ok (.aload_n 0, 1) := by decide +kernel
theorem dX5_take_127 : decode cX5_take 127 = .ok (.getfield 20, 3) := by decide +kernel
theorem dX5_take_130 : decode cX5_take 130 = .ok (.aload_n 0, 1) := by decide +kernel
theorem dX5_take_131 : decode cX5_take 131 = .ok (.getfield 7, 3) := by decide +kernel
theorem dX5_take_134 : decode cX5_take 134 = .ok (.iload 5, 2) := by decide +kernel
theorem dX5_take_136 : decode cX5_take 136 = .ok (.iaload, 1) := by decide +kernel
theorem dX5_take_137 : decode cX5_take 137 = .ok (.laload, 1) := by decide +kernel
theorem dX5_take_138 : decode cX5_take 138 = .ok (.lload 6, 2) := by decide +kernel
theorem dX5_take_140 : decode cX5_take 140 = .ok (.lxor, 1) := by decide +kernel
theorem dX5_take_141 : decode cX5_take 141 = .ok (.lastore, 1) := by decide +kernel
theorem dX5_take_142 : decode cX5_take 142 = .ok (.aload_n 0, 1) := by decide +kernel
theorem dX5_take_143 : decode cX5_take 143 = .ok (.dup, 1) := by decide +kernel
theorem dX5_take_144 : decode cX5_take 144 = .ok (.getfield 104, 3) := by decide +kernel
theorem dX5_take_147 : decode cX5_take 147 = .ok (.iconst 1, 1) := by decide +kernel
theorem dX5_take_148 : decode cX5_take 148 = .ok (.iadd, 1) := by decide +kernel
theorem dX5_take_149 : decode cX5_take 149 = .ok (.putfield 104, 3) := by decide +kernel
theorem dX5_take_152 : decode cX5_take 152 = .ok (.goto 136, 3) := by decide +kernel
theorem dX5_take_155 : decode cX5_take 155 = .ok (.iload_n 3, 1) := by decide +kernel
theorem dX5_take_156 : decode cX5_take 156 = .ok (.iconst 3, 1) := by decide +kernel
theorem dX5_take_157 : decode cX5_take 157 = .ok (.if_icmp .ne 70, 3) := by decide +kernel
theorem dX5_take_160 : decode cX5_take 160 = .ok (.iconst 0, 1) := by decide +kernel
theorem dX5_take_161 : decode cX5_take 161 = .ok (.istore 6, 2) := by decide +kernel
theorem dX5_take_163 : decode cX5_take 163 = .ok (.iload 6, 2) := by decide +kernel
theorem dX5_take_165 : decode cX5_take 165 = .ok (.bipush 8, 2) := by decide +kernel
theorem dX5_take_167 : decode cX5_take 167 = .ok (.if_icmp .ge 37, 3) := by decide +kernel
theorem dX5_take_170 : decode cX5_take 170 = .ok (.aload_n 0, 1) := by decide +kernel
theorem dX5_take_171 : decode cX5_take 171 = .ok (.getfield 35, 3) := by decide +kernel
theorem dX5_take_174 : decode cX5_take 174 = .ok (.bipush 8, 2) := by decide +kernel
theorem dX5_take_176 : decode cX5_take 176 = .ok (.aload_n 0, 1) := by decide +kernel
theorem dX5_take_177 : decode cX5_take 177 = .ok (.getfield 110, 3) := by decide +kernel
theorem dX5_take_180 : decode cX5_take 180 = .ok (.imul, 1) := by decide +kernel
theorem dX5_take_181 : decode cX5_take 181 = .ok (.iload 6, 2) := by decide +kernel
theorem dX5_take_183 : decode cX5_take 183 = .ok (.iadd, 1) := by decide +kernel
theorem dX5_take_184 : decode cX5_take 184 = .ok (.aload_n 0, 1) := by decide +kernel
theorem dX5_take_185 : decode cX5_take 185 = .ok (.iload 5, 2) := by decide +kernel
theorem dX5_take_187 : decode cX5_take 187 = .ok (.iconst 2, 1) := by decide +kernel
theorem dX5_take_188 : decode cX5_take 188 = .ok (.iload 6, 2) := by decide +kernel
theorem dX5_take_190 : decode cX5_take 190 = .ok (.imul, 1) := by decide +kernel
theorem dX5_take_191 : decode cX5_take 191 = .ok (.iadd, 1) := by decide +kernel
theorem dX5_take_192 : decode cX5_take 192 = .ok (.iconst 2, 1) := by decide +kernel
theorem dX5_take_193 : decode cX5_take 193 = .ok (.invokevirtual 137, 3) := by decide +kernel
theorem dX5_take_196 : decode cX5_take 196 = .ok (.l2i, 1) := by decide +kernel
theorem dX5_take_197 : decode cX5_take 197 = .ok (.iastore, 1) := by decide +kernel
theorem dX5_take_198 : decode cX5_take 198 = .ok (.iinc 6 1, 3) := by decide +kernel
theorem dX5_take_201 : decode cX5_take 201 = .ok (.goto (-38), 3) := by decide +kernel
theorem dX5_take_204 : decode cX5_take 204 = .ok (.aload_n 0, 1) := by decide +kernel
theorem dX5_take_205 : decode cX5_take 205 = .ok (.getfield 31, 3) := by decide +kernel
theorem dX5_take_208 : decode cX5_take 208 = .ok (.aload_n 0, 1) := by decide +kernel
theorem dX5_take_209 : decode cX5_take 209 = .ok (.getfield 110, 3) := by decide +kernel
theorem dX5_take_212 : decode cX5_take 212 = .ok (.iconst 1, 1) := by decide +kernel
theorem dX5_take_213 : decode cX5_take 213 = .ok (.bastore, 1) := by decide +kernel
theorem dX5_take_214 : decode cX5_take 214 = .ok (.aload_n 0, 1) := by decide +kernel
theorem dX5_take_215 : decode cX5_take 215 = .ok (.dup, 1) := by decide +kernel
theorem dX5_take_216 : decode cX5_take 216 = .ok (.getfield 110, 3) := by decide +kernel
theorem dX5_take_219 : decode cX5_take 219 = .ok (.iconst 1, 1) := by decide +kernel
theorem dX5_take_220 : decode cX5_take 220 = .ok (.iadd, 1) := by decide +kernel
theorem dX5_take_221 : decode cX5_take 221 = .ok (.putfield 110, 3) := by decide +kernel
theorem dX5_take_224 : decode cX5_take 224 = .ok (.goto 64, 3) := by decide +kernel
theorem dX5_take_227 : decode cX5_take 227 = .ok (.iload_n 3, 1) := by decide +kernel
theorem dX5_take_228 : decode cX5_take 228 = .ok (.iconst 4, 1) := by decide +kernel
theorem dX5_take_229 : decode cX5_take 229 = .ok (.if_icmp .ne 51, 3) := by decide +kernel
theorem dX5_take_232 : decode cX5_take 232 = .ok (.aload_n 0, 1) := by decide +kernel
theorem dX5_take_233 : decode cX5_take 233 = .ok (.getfield 38, 3) := by decide +kernel
theorem dX5_take_236 : decode cX5_take 236 = .ok (.aload_n 0, 1) := by decide +kernel
theorem dX5_take_237 : decode cX5_take 237 = .ok (.getfield 113, 3) := by decide +kernel
theorem dX5_take_240 : decode cX5_take 240 = .ok (.aload_n 0, 1) := by decide +kernel
theorem dX5_take_241 : decode cX5_take 241 = .ok (.getfield 7, 3) := by decide +kernel
theorem dX5_take_244 : decode cX5_take 244 = .ok (.iload 5, 2) := by decide +kernel
theorem dX5_take_246 : decode cX5_take 246 = .ok (.iaload, 1) := by decide +kernel
theorem dX5_take_247 : decode cX5_take 247 = .ok (.iastore, 1) := by decide +kernel
theorem dX5_take_248 : decode cX5_take 248 = .ok (.aload_n 0, 1) := by decide +kernel
theorem dX5_take_249 : decode cX5_take 249 = .ok (.getfield 41, 3) := by decide +kernel
theorem dX5_take_252 : decode cX5_take 252 = .ok (.aload_n 0, 1) := by decide +kernel
theorem dX5_take_253 : decode cX5_take 253 = .ok (.getfield 113, 3) := by decide +kernel
theorem dX5_take_256 : decode cX5_take 256 = .ok (.aload_n 0, 1) := by decide +kernel
theorem dX5_take_257 : decode cX5_take 257 = .ok (.iload 5, 2) := by decide +kernel
theorem dX5_take_259 : decode cX5_take 259 = .ok (.iconst 2, 1) := by decide +kernel
theorem dX5_take_260 : decode cX5_take 260 = .ok (.iadd, 1) := by decide +kernel
theorem dX5_take_261 : decode cX5_take 261 = .ok (.bipush 8, 2) := by decide +kernel
theorem dX5_take_263 : decode cX5_take 263 = .ok (.invokevirtual 137, 3) := by decide +kernel
theorem dX5_take_266 : decode cX5_take 266 = .ok (.lastore, 1) := by decide +kernel
theorem dX5_take_267 : decode cX5_take 267 = .ok (.aload_n 0, 1) := by decide +kernel
theorem dX5_take_268 : decode cX5_take 268 = .ok (.dup, 1) := by decide +kernel
theorem dX5_take_269 : decode cX5_take 269 = .ok (.getfield 113, 3) := by decide +kernel
theorem dX5_take_272 : decode cX5_take 272 = .ok (.iconst 1, 1) := by decide +kernel
theorem dX5_take_273 : decode cX5_take 273 = .ok (.iadd, 1) := by decide +kernel
theorem dX5_take_274 : decode cX5_take 274 = .ok (.putfield 113, 3) := by decide +kernel
theorem dX5_take_277 : decode cX5_take 277 = .ok (.goto 11, 3) := by decide +kernel
theorem dX5_take_280 : decode cX5_take 280 = .ok (.aload_n 0, 1) := by decide +kernel
theorem dX5_take_281 : decode cX5_take 281 = .ok (.getfield 31, 3) := by decide +kernel
theorem dX5_take_284 : decode cX5_take 284 = .ok (.iload 4, 2) := by decide +kernel
theorem dX5_take_286 : decode cX5_take 286 = .ok (.iconst 0, 1) := by decide +kernel
theorem dX5_take_287 : decode cX5_take 287 = .ok (.bastore, 1) := by decide +kernel
theorem dX5_take_288 : decode cX5_take 288 = .ok (.aload_n 0, 1) := by decide +kernel
theorem dX5_take_289 : decode cX5_take 289 = .ok (.aload_n 0, 1) := by decide +kernel
theorem dX5_take_290 : decode cX5_take 290 = .ok (.getfield 98, 3) := by decide +kernel
theorem dX5_take_293 : decode cX5_take 293 = .ok (.bipush 12, 2) := by decide +kernel
theorem dX5_take_295 : decode cX5_take 295 = .ok (.iadd, 1) := by decide +kernel
theorem dX5_take_296 : decode cX5_take 296 = .ok (.iload_n 2, 1) := by decide +kernel
theorem dX5_take_297 : decode cX5_take 297 = .ok (.iadd, 1) := by decide +kernel
theorem dX5_take_298 : decode cX5_take 298 = .ok (.putfield 98, 3) := by decide +kernel
theorem dX5_take_301 : decode cX5_take 301 = .ok (.aload_n 0, 1) := by decide +kernel
theorem dX5_take_302 : decode cX5_take 302 = .ok (.dup, 1) := by decide +kernel
theorem dX5_take_303 : decode cX5_take 303 = .ok (.getfield 101, 3) := by decide +kernel
theorem dX5_take_306 : decode cX5_take 306 = .ok (.iconst 1, 1) := by decide +kernel
theorem dX5_take_307 : decode cX5_take 307 = .ok (.iadd, 1) := by decide +kernel
theorem dX5_take_308 : decode cX5_take 308 = .ok (.putfield 101, 3) := by decide +kernel
theorem dX5_take_311 : decode cX5_take 311 = .ok (.return_, 1) := by decide +kernel
theorem dX5_fits_0 : decode cX5_fits 0 = .ok (.aload_n 0, 1) := by decide +kernel
theorem dX5_fits_1 : decode cX5_fits 1 = .ok (.getfield 98, 3) := by decide +kernel
theorem dX5_fits_4 : decode cX5_fits 4 = .ok (.iload_n 1, 1) := by decide +kernel
theorem dX5_fits_5 : decode cX5_fits 5 = .ok (.iadd, 1) := by decide +kernel
theorem dX5_fits_6 : decode cX5_fits 6 = .ok (.sipush 24000, 3) := by decide +kernel
theorem dX5_fits_9 : decode cX5_fits 9 = .ok (.if_icmp .gt 7, 3) := by decide +kernel
theorem dX5_fits_12 : decode cX5_fits 12 = .ok (.iconst 1, 1) := by decide +kernel
theorem dX5_fits_13 : decode cX5_fits 13 = .ok (.goto 4, 3) := by decide +kernel
theorem dX5_fits_16 : decode cX5_fits 16 = .ok (.iconst 0, 1) := by decide +kernel
theorem dX5_fits_17 : decode cX5_fits 17 = .ok (.ireturn, 1) := by decide +kernel
theorem dX5_edge_0 : decode cX5_edge 0 = .ok (.aload_n 0, 1) := by decide +kernel
theorem dX5_edge_1 : decode cX5_edge 1 = .ok (.aload_n 0, 1) := by decide +kernel
theorem dX5_edge_2 : decode cX5_edge 2 = .ok (.getfield 94, 3) := by decide +kernel
theorem dX5_edge_5 : decode cX5_edge 5 = .ok (.ifCond .ne 7, 3) := by decide +kernel
theorem dX5_edge_8 : decode cX5_edge 8 = .ok (.iconst 1, 1) := by decide +kernel
theorem dX5_edge_9 : decode cX5_edge 9 = .ok (.goto 28, 3) := by decide +kernel
theorem dX5_edge_12 : decode cX5_edge 12 = .ok (.iload_n 1, 1) := by decide +kernel
theorem dX5_edge_13 : decode cX5_edge 13 = .ok (.iconst 0, 1) := by decide +kernel
theorem dX5_edge_14 : decode cX5_edge 14 = .ok (.bipush 63, 2) := by decide +kernel
theorem dX5_edge_16 : decode cX5_edge 16 = .ok (.invokestatic 133, 3) := by decide +kernel
theorem dX5_edge_19 : decode cX5_edge 19 = .ok (.ifCond .eq 13, 3) := by decide +kernel
theorem dX5_edge_22 : decode cX5_edge 22 = .ok (.iload_n 2, 1) := by decide +kernel
theorem dX5_edge_23 : decode cX5_edge 23 = .ok (.iconst 0, 1) := by decide +kernel
theorem dX5_edge_24 : decode cX5_edge 24 = .ok (.bipush 63, 2) := by decide +kernel
theorem dX5_edge_26 : decode cX5_edge 26 = .ok (.invokestatic 133, 3) := by decide +kernel
theorem dX5_edge_29 : decode cX5_edge 29 = .ok (.ifCond .ne 7, 3) := by decide +kernel
theorem dX5_edge_32 : decode cX5_edge 32 = .ok (.iconst 2, 1) := by decide +kernel
theorem dX5_edge_33 : decode cX5_edge 33 = .ok (.goto 4, 3) := by decide +kernel
theorem dX5_edge_36 : decode cX5_edge 36 = .ok (.iconst 0, 1) := by decide +kernel
theorem dX5_edge_37 : decode cX5_edge 37 = .ok (.putfield 75, 3) := by decide +kernel
theorem dX5_edge_40 : decode cX5_edge 40 = .ok (.aload_n 0, 1) := by decide +kernel
theorem dX5_edge_41 : decode cX5_edge 41 = .ok (.getfield 75, 3) := by decide +kernel
theorem dX5_edge_44 : decode cX5_edge 44 = .ok (.ifCond .le 5, 3) := by decide +kernel
theorem dX5_edge_47 : decode cX5_edge 47 = .ok (.iconst 0, 1) := by decide +kernel
theorem dX5_edge_48 : decode cX5_edge 48 = .ok (.ireturn, 1) := by decide +kernel
theorem dX5_edge_49 : decode cX5_edge 49 = .ok (.aload_n 0, 1) := by decide +kernel
theorem dX5_edge_50 : decode cX5_edge 50 = .ok (.iload_n 1, 1) := by decide +kernel
theorem dX5_edge_51 : decode cX5_edge 51 = .ok (.iload_n 2, 1) := by decide +kernel
theorem dX5_edge_52 : decode cX5_edge 52 = .ok (.invokevirtual 148, 3) := by decide +kernel
theorem dX5_edge_55 : decode cX5_edge 55 = .ok (.iload_n 3, 1) := by decide +kernel
theorem dX5_edge_56 : decode cX5_edge 56 = .ok (.if_icmp .ne 5, 3) := by decide +kernel
theorem dX5_edge_59 : decode cX5_edge 59 = .ok (.iconst 0, 1) := by decide +kernel
theorem dX5_edge_60 : decode cX5_edge 60 = .ok (.ireturn, 1) := by decide +kernel
theorem dX5_edge_61 : decode cX5_edge 61 = .ok (.aload_n 0, 1) := by decide +kernel
theorem dX5_edge_62 : decode cX5_edge 62 = .ok (.bipush 15, 2) := by decide +kernel
theorem dX5_edge_64 : decode cX5_edge 64 = .ok (.invokevirtual 156, 3) := by decide +kernel
theorem dX5_edge_67 : decode cX5_edge 67 = .ok (.ifCond .ne 6, 3) := by decide +kernel
theorem dX5_edge_70 : decode cX5_edge 70 = .ok (.bipush (-3), 2) := by decide +kernel
theorem dX5_edge_72 : decode cX5_edge 72 = .ok (.ireturn, 1) := by decide +kernel
theorem dX5_edge_73 : decode cX5_edge 73 = .ok (.aload_n 0, 1) := by decide +kernel
theorem dX5_edge_74 : decode cX5_edge 74 = .ok (.iconst 2, 1) := by decide +kernel
theorem dX5_edge_75 : decode cX5_edge 75 = .ok (.aload_n 0, 1) := by decide +kernel
theorem dX5_edge_76 : decode cX5_edge 76 = .ok (.getfield 104, 3) := by decide +kernel
theorem dX5_edge_79 : decode cX5_edge 79 = .ok (.iconst 3, 1) := by decide +kernel
theorem dX5_edge_80 : decode cX5_edge 80 = .ok (.invokevirtual 159, 3) := by decide +kernel
theorem dX5_edge_83 : decode cX5_edge 83 = .ok (.istore 4, 2) := by decide +kernel
theorem dX5_edge_85 : decode cX5_edge 85 = .ok (.aload_n 0, 1) := by decide +kernel
theorem dX5_edge_86 : decode cX5_edge 86 = .ok (.iload 4, 2) := by decide +kernel
theorem dX5_edge_88 : decode cX5_edge 88 = .ok (.iload_n 1, 1) := by decide +kernel
theorem dX5_edge_89 : decode cX5_edge 89 = .ok (.invokevirtual 118, 3) := by decide +kernel
theorem dX5_edge_92 : decode cX5_edge 92 = .ok (.aload_n 0, 1) := by decide +kernel
theorem dX5_edge_93 : decode cX5_edge 93 = .ok (.iload 4, 2) := by decide +kernel
theorem dX5_edge_95 : decode cX5_edge 95 = .ok (.iconst 1, 1) := by decide +kernel
theorem dX5_edge_96 : decode cX5_edge 96 = .ok (.iadd, 1) := by decide +kernel
theorem dX5_edge_97 : decode cX5_edge 97 = .ok (.iload_n 2, 1) := by decide +kernel
theorem dX5_edge_98 : decode cX5_edge 98 = .ok (.invokevirtual 118, 3) := by decide +kernel
theorem dX5_edge_101 : decode cX5_edge 101 = .ok (.aload_n 0, 1) := by decide +kernel
theorem dX5_edge_102 : decode cX5_edge 102 = .ok (.iload 4, 2) := by decide +kernel
theorem dX5_edge_104 : decode cX5_edge 104 = .ok (.iconst 2, 1) := by decide +kernel
theorem dX5_edge_105 : decode cX5_edge 105 = .ok (.iadd, 1) := by decide +kernel
theorem dX5_edge_106 : decode cX5_edge 106 = .ok (.iload_n 3, 1) := by decide +kernel
theorem dX5_edge_107 : decode cX5_edge 107 = .ok (.ifCond .eq 7, 3) := by decide +kernel
theorem dX5_edge_110 : decode cX5_edge 110 = .ok (.iconst 1, 1) := by decide +kernel
theorem dX5_edge_111 : decode cX5_edge 111 = .ok (.goto 4, 3) := by decide +kernel
theorem dX5_edge_114 : decode cX5_edge 114 = .ok (.iconst 0, 1) := by decide +kernel
theorem dX5_edge_115 : decode cX5_edge 115 = .ok (.invokevirtual 118, 3) := by decide +kernel
theorem dX5_edge_118 : decode cX5_edge 118 = .ok (.aload_n 0, 1) := by decide +kernel
theorem dX5_edge_119 : decode cX5_edge 119 = .ok (.iconst 3, 1) := by decide +kernel
theorem dX5_edge_120 : decode cX5_edge 120 = .ok (.invokevirtual 163, 3) := by decide +kernel
theorem dX5_edge_123 : decode cX5_edge 123 = .ok (.iconst 1, 1) := by decide +kernel
theorem dX5_edge_124 : decode cX5_edge 124 = .ok (.ireturn, 1) := by decide +kernel
theorem dX5_isAlike_0 : decode cX5_isAlike 0 = .ok (.iconst 1, 1) := by decide +kernel
theorem dX5_isAlike_1 : decode cX5_isAlike 1 = .ok (.istore_n 3, 1) := by decide +kernel
theorem dX5_isAlike_2 : decode cX5_isAlike 2 = .ok (.iconst 0, 1) := by decide +kernel
theorem dX5_isAlike_3 : decode cX5_isAlike 3 = .ok (.istore 4, 2) := by decide +kernel
theorem dX5_isAlike_5 : decode cX5_isAlike 5 = .ok (.iload 4, 2) := by decide +kernel
theorem dX5_isAlike_7 : decode cX5_isAlike 7 = .ok (.bipush 8, 2) := by decide +kernel
theorem dX5_isAlike_9 : decode cX5_isAlike 9 = .ok (.if_icmp .ge 52, 3) := by decide +kernel
theorem dX5_isAlike_12 : decode cX5_isAlike 12 = .ok (.iload_n 3, 1) := by decide +kernel
theorem dX5_isAlike_13 : decode cX5_isAlike 13 = .ok (.ifCond .eq 40, 3) := by decide +kernel
theorem dX5_isAlike_16 : decode cX5_isAlike 16 = .ok (.aload_n 0, 1) := by decide +kernel
theorem dX5_isAlike_17 : decode cX5_isAlike 17 = .ok (.getfield 28, 3) := by decide +kernel
theorem dX5_isAlike_20 : decode cX5_isAlike 20 = .ok (.bipush 8, 2) := by decide +kernel
theorem dX5_isAlike_22 : decode cX5_isAlike 22 = .ok (.aload_n 0, 1) := by decide +kernel
theorem dX5_isAlike_23 : decode cX5_isAlike 23 = .ok (.getfield 25, 3) := by decide +kernel
theorem dX5_isAlike_26 : decode cX5_isAlike 26 = .ok (.iload_n 1, 1) := by decide +kernel
theorem dX5_isAlike_27 : decode cX5_isAlike 27 = .ok (.iaload, 1) := by decide +kernel
theorem dX5_isAlike_28 : decode cX5_isAlike 28 = .ok (.imul, 1) := by decide +kernel
theorem dX5_isAlike_29 : decode cX5_isAlike 29 = .ok (.iload 4, 2) := by decide +kernel
theorem dX5_isAlike_31 : decode cX5_isAlike 31 = .ok (.iadd, 1) := by decide +kernel
theorem dX5_isAlike_32 : decode cX5_isAlike 32 = .ok (.laload, 1) := by decide +kernel
theorem dX5_isAlike_33 : decode cX5_isAlike 33 = .ok (.aload_n 0, 1) := by decide +kernel
theorem dX5_isAlike_34 : decode cX5_isAlike 34 = .ok (.getfield 20, 3) := by decide +kernel
theorem dX5_isAlike_37 : decode cX5_isAlike 37 = .ok (.bipush 8, 2) := by decide +kernel
theorem dX5_isAlike_39 : decode cX5_isAlike 39 = .ok (.iload_n 2, 1) := by decide +kernel
theorem dX5_isAlike_40 : decode cX5_isAlike 40 = .ok (.imul, 1) := by decide +kernel
theorem dX5_isAlike_41 : decode cX5_isAlike 41 = .ok (.iload 4, 2) := by decide +kernel
theorem dX5_isAlike_43 : decode cX5_isAlike 43 = .ok (.iadd, 1) := by decide +kernel
theorem dX5_isAlike_44 : decode cX5_isAlike 44 = .ok (.laload, 1) := by decide +kernel
theorem dX5_isAlike_45 : decode cX5_isAlike 45 = .ok (.lcmp, 1) := by decide +kernel
theorem dX5_isAlike_46 : decode cX5_isAlike 46 = .ok (.ifCond .ne 7, 3) := by decide +kernel
theorem dX5_isAlike_49 : decode cX5_isAlike 49 = .ok (.iconst 1, 1) := by decide +kernel
theorem dX5_isAlike_50 : decode cX5_isAlike 50 = .ok (.goto 4, 3) := by decide +kernel
theorem dX5_isAlike_53 : decode cX5_isAlike 53 = .ok (.iconst 0, 1) := by decide +kernel
theorem dX5_isAlike_54 : decode cX5_isAlike 54 = .ok (.istore_n 3, 1) := by decide +kernel
theorem dX5_isAlike_55 : decode cX5_isAlike 55 = .ok (.iinc 4 1, 3) := by decide +kernel
theorem dX5_isAlike_58 : decode cX5_isAlike 58 = .ok (.goto (-53), 3) := by decide +kernel
theorem dX5_isAlike_61 : decode cX5_isAlike 61 = .ok (.iload_n 3, 1) := by decide +kernel
theorem dX5_isAlike_62 : decode cX5_isAlike 62 = .ok (.ireturn, 1) := by decide +kernel
theorem dX5_find_0 : decode cX5_find 0 = .ok (.iconst 0, 1) := by decide +kernel
theorem dX5_find_1 : decode cX5_find 1 = .ok (.istore_n 2, 1) := by decide +kernel
theorem dX5_find_2 : decode cX5_find 2 = .ok (.iload_n 2, 1) := by decide +kernel
theorem dX5_find_3 : decode cX5_find 3 = .ok (.aload_n 0, 1) := by decide +kernel
theorem dX5_find_4 : decode cX5_find 4 = .ok (.getfield 110, 3) := by decide +kernel
theorem dX5_find_7 : decode cX5_find 7 = .ok (.if_icmp .ge 63, 3) := by decide +kernel
theorem dX5_find_10 : decode cX5_find 10 = .ok (.iconst 0, 1) := by decide +kernel
theorem dX5_find_11 : decode cX5_find 11 = .ok (.istore_n 3, 1) := by decide +kernel
theorem dX5_find_12 : decode cX5_find 12 = .ok (.iload_n 3, 1) := by decide +kernel
theorem dX5_find_13 : decode cX5_find 13 = .ok (.bipush 8, 2) := by decide +kernel
theorem dX5_find_15 : decode cX5_find 15 = .ok (.if_icmp .ge 49, 3) := by decide +kernel
theorem dX5_find_18 : decode cX5_find 18 = .ok (.aload_n 0, 1) := by decide +kernel
theorem dX5_find_19 : decode cX5_find 19 = .ok (.getfield 31, 3) := by decide +kernel
theorem dX5_find_22 : decode cX5_find 22 = .ok (.iload_n 2, 1) := by decide +kernel
theorem dX5_find_23 : decode cX5_find 23 = .ok (.baload, 1) := by decide +kernel
theorem dX5_find_24 : decode cX5_find 24 = .ok (.ifCond .eq 34, 3) := by decide +kernel
theorem dX5_find_27 : decode cX5_find 27 = .ok (.aload_n 0, 1) := by decide +kernel
theorem dX5_find_28 : decode cX5_find 28 = .ok (.aload_n 0, 1) := by decide +kernel
theorem dX5_find_29 : decode cX5_find 29 = .ok (.getfield 35, 3) := by decide +kernel
theorem dX5_find_32 : decode cX5_find 32 = .ok (.bipush 8, 2) := by decide +kernel
theorem dX5_find_34 : decode cX5_find 34 = .ok (.iload_n 2, 1) := by decide +kernel
theorem dX5_find_35 : decode cX5_find 35 = .ok (.imul, 1) := by decide +kernel
theorem dX5_find_36 : decode cX5_find 36 = .ok (.iload_n 3, 1) := by decide +kernel
theorem dX5_find_37 : decode cX5_find 37 = .ok (.iadd, 1) := by decide +kernel
theorem dX5_find_38 : decode cX5_find 38 = .ok (.iaload, 1) := by decide +kernel
theorem dX5_find_39 : decode cX5_find 39 = .ok (.iload_n 1, 1) := by decide +kernel
theorem dX5_find_40 : decode cX5_find 40 = .ok (.invokevirtual 166, 3) := by decide +kernel
theorem dX5_find_43 : decode cX5_find 43 = .ok (.ifCond .eq 15, 3) := by decide +kernel
theorem dX5_find_46 : decode cX5_find 46 = .ok (.aload_n 0, 1) := by decide +kernel
theorem dX5_find_47 : decode cX5_find 47 = .ok (.getfield 35, 3) := by decide +kernel
theorem dX5_find_50 : decode cX5_find 50 = .ok (.bipush 8, 2) := by decide +kernel
theorem dX5_find_52 : decode cX5_find 52 = .ok (.iload_n 2, 1) := by decide +kernel
theorem dX5_find_53 : decode cX5_find 53 = .ok (.imul, 1) := by decide +kernel
theorem dX5_find_54 : decode cX5_find 54 = .ok (.iload_n 3, 1) := by decide +kernel
theorem dX5_find_55 : decode cX5_find 55 = .ok (.iadd, 1) := by decide +kernel
theorem dX5_find_56 : decode cX5_find 56 = .ok (.iaload, 1) := by decide +kernel
theorem dX5_find_57 : decode cX5_find 57 = .ok (.ireturn, 1) := by decide +kernel
theorem dX5_find_58 : decode cX5_find 58 = .ok (.iinc 3 1, 3) := by decide +kernel
theorem dX5_find_61 : decode cX5_find 61 = .ok (.goto (-49), 3) := by decide +kernel
theorem dX5_find_64 : decode cX5_find 64 = .ok (.iinc 2 1, 3) := by decide +kernel
theorem dX5_find_67 : decode cX5_find 67 = .ok (.goto (-65), 3) := by decide +kernel
theorem dX5_find_70 : decode cX5_find 70 = .ok (.iconst (-1), 1) := by decide +kernel
theorem dX5_find_71 : decode cX5_find 71 = .ok (.ireturn, 1) := by decide +kernel
theorem dX5_earlier_0 : decode cX5_earlier 0 = .ok (.iconst 0, 1) := by decide +kernel
theorem dX5_earlier_1 : decode cX5_earlier 1 = .ok (.istore_n 2, 1) := by decide +kernel
theorem dX5_earlier_2 : decode cX5_earlier 2 = .ok (.iload_n 2, 1) := by decide +kernel
theorem dX5_earlier_3 : decode cX5_earlier 3 = .ok (.iload_n 1, 1) := by decide +kernel
theorem dX5_earlier_4 : decode cX5_earlier 4 = .ok (.if_icmp .ge 71, 3) := by decide +kernel
theorem dX5_earlier_7 : decode cX5_earlier 7 = .ok (.iconst 1, 1) := by decide +kernel
theorem dX5_earlier_8 : decode cX5_earlier 8 = .ok (.istore_n 3, 1) := by decide +kernel
theorem dX5_earlier_9 : decode cX5_earlier 9 = .ok (.iconst 0, 1) := by decide +kernel
theorem dX5_earlier_10 : decode cX5_earlier 10 = .ok (.istore 4, 2) := by decide +kernel
theorem dX5_earlier_12 : decode cX5_earlier 12 = .ok (.iload 4, 2) := by decide +kernel
theorem dX5_earlier_14 : decode cX5_earlier 14 = .ok (.bipush 8, 2) := by decide +kernel
theorem dX5_earlier_16 : decode cX5_earlier 16 = .ok (.if_icmp .ge 47, 3) := by decide +kernel
theorem dX5_earlier_19 : decode cX5_earlier 19 = .ok (.iload_n 3, 1) := by decide +kernel
theorem dX5_earlier_20 : decode cX5_earlier 20 = .ok (.ifCond .eq 35, 3) := by decide +kernel
theorem dX5_earlier_23 : decode cX5_earlier 23 = .ok (.aload_n 0, 1) := by decide +kernel
theorem dX5_earlier_24 : decode cX5_earlier 24 = .ok (.getfield 20, 3) := by decide +kernel
theorem dX5_earlier_27 : decode cX5_earlier 27 = .ok (.bipush 8, 2) := by decide +kernel
theorem dX5_earlier_29 : decode cX5_earlier 29 = .ok (.iload_n 2, 1) := by decide +kernel
theorem dX5_earlier_30 : decode cX5_earlier 30 = .ok (.imul, 1) := by decide +kernel
theorem dX5_earlier_31 : decode cX5_earlier 31 = .ok (.iload 4, 2) := by decide +kernel
theorem dX5_earlier_33 : decode cX5_earlier 33 = .ok (.iadd, 1) := by decide +kernel
theorem dX5_earlier_34 : decode cX5_earlier 34 = .ok (.laload, 1) := by decide +kernel
theorem dX5_earlier_35 : decode cX5_earlier 35 = .ok (.aload_n 0, 1) := by decide +kernel
theorem dX5_earlier_36 : decode cX5_earlier 36 = .ok (.getfield 20, 3) := by decide +kernel
theorem dX5_earlier_39 : decode cX5_earlier 39 = .ok (.bipush 8, 2) := by decide +kernel
theorem dX5_earlier_41 : decode cX5_earlier 41 = .ok (.iload_n 1, 1) := by decide +kernel
theorem dX5_earlier_42 : decode cX5_earlier 42 = .ok (.imul, 1) := by decide +kernel
theorem dX5_earlier_43 : decode cX5_earlier 43 = .ok (.iload 4, 2) := by decide +kernel
theorem dX5_earlier_45 : decode cX5_earlier 45 = .ok (.iadd, 1) := by decide +kernel
theorem dX5_earlier_46 : decode cX5_earlier 46 = .ok (.laload, 1) := by decide +kernel
theorem dX5_earlier_47 : decode cX5_earlier 47 = .ok (.lcmp, 1) := by decide +kernel
theorem dX5_earlier_48 : decode cX5_earlier 48 = .ok (.ifCond .ne 7, 3) := by decide +kernel
theorem dX5_earlier_51 : decode cX5_earlier 51 = .ok (.iconst 1, 1) := by decide +kernel
theorem dX5_earlier_52 : decode cX5_earlier 52 = .ok (.goto 4, 3) := by decide +kernel
theorem dX5_earlier_55 : decode cX5_earlier 55 = .ok (.iconst 0, 1) := by decide +kernel
theorem dX5_earlier_56 : decode cX5_earlier 56 = .ok (.istore_n 3, 1) := by decide +kernel
theorem dX5_earlier_57 : decode cX5_earlier 57 = .ok (.iinc 4 1, 3) := by decide +kernel
theorem dX5_earlier_60 : decode cX5_earlier 60 = .ok (.goto (-48), 3) := by decide +kernel
theorem dX5_earlier_63 : decode cX5_earlier 63 = .ok (.iload_n 3, 1) := by decide +kernel
theorem dX5_earlier_64 : decode cX5_earlier 64 = .ok (.ifCond .eq 5, 3) := by decide +kernel
theorem dX5_earlier_67 : decode cX5_earlier 67 = .ok (.iload_n 2, 1) := by decide +kernel
theorem dX5_earlier_68 : decode cX5_earlier 68 = .ok (.ireturn, 1) := by decide +kernel
theorem dX5_earlier_69 : decode cX5_earlier 69 = .ok (.iinc 2 1, 3) := by decide +kernel
theorem dX5_earlier_72 : decode cX5_earlier 72 = .ok (.goto (-70), 3) := by decide +kernel
theorem dX5_earlier_75 : decode cX5_earlier 75 = .ok (.iconst (-1), 1) := by decide +kernel
theorem dX5_earlier_76 : decode cX5_earlier 76 = .ok (.ireturn, 1) := by decide +kernel
theorem dX5_leastFree_0 : decode cX5_leastFree 0 = .ok (.iconst 0, 1) := by decide +kernel
theorem dX5_leastFree_1 : decode cX5_leastFree 1 = .ok (.istore_n 2, 1) := by decide +kernel
theorem dX5_leastFree_2 : decode cX5_leastFree 2 = .ok (.iconst 1, 1) := by decide +kernel
theorem dX5_leastFree_3 : decode cX5_leastFree 3 = .ok (.istore_n 3, 1) := by decide +kernel
theorem dX5_leastFree_4 : decode cX5_leastFree 4 = .ok (.iload_n 3, 1) := by decide +kernel
theorem dX5_leastFree_5 : decode cX5_leastFree 5 = .ok (.ifCond .eq 78, 3) := by decide +kernel
theorem dX5_leastFree_8 : decode cX5_leastFree 8 = .ok (.aload_n 0, 1) := by decide +kernel
theorem dX5_leastFree_9 : decode cX5_leastFree 9 = .ok (.iload_n 2, 1) := by decide +kernel
theorem dX5_leastFree_10 : decode cX5_leastFree 10 = .ok (.invokevirtual 145, 3) := by decide +kernel
theorem dX5_leastFree_13 : decode cX5_leastFree 13 = .ok (.ifCond .le 7, 3) := by decide +kernel
theorem dX5_leastFree_16 : decode cX5_leastFree 16 = .ok (.iconst 1, 1) := by decide +kernel
theorem dX5_leastFree_17 : decode cX5_leastFree 17 = .ok (.goto 4, 3) := by decide +kernel
theorem dX5_leastFree_20 : decode cX5_leastFree 20 = .ok (.iconst 0, 1) := by decide +kernel
theorem dX5_leastFree_21 : decode cX5_leastFree 21 = .ok (.istore_n 3, 1) := by decide +kernel
theorem dX5_leastFree_22 : decode cX5_leastFree 22 = .ok (.iconst 0, 1) := by decide +kernel
theorem dX5_leastFree_23 : decode cX5_leastFree 23 = .ok (.istore 4, 2) := by decide +kernel
theorem dX5_leastFree_25 : decode cX5_leastFree 25 = .ok (.iload 4, 2) := by decide +kernel
theorem dX5_leastFree_27 : decode cX5_leastFree 27 = .ok (.iload_n 1, 1) := by decide +kernel
theorem dX5_leastFree_28 : decode cX5_leastFree 28 = .ok (.if_icmp .ge 40, 3) := by decide +kernel
theorem dX5_leastFree_31 : decode cX5_leastFree 31 = .ok (.iload_n 3, 1) := by decide +kernel
theorem dX5_leastFree_32 : decode cX5_leastFree 32 = .ok (.ifCond .ne 24, 3) := by decide +kernel
theorem dX5_leastFree_35 : decode cX5_leastFree 35 = .ok (.aload_n 0, 1) := by decide +kernel
theorem dX5_leastFree_36 : decode cX5_leastFree 36 = .ok (.getfield 47, 3) := by decide +kernel
theorem dX5_leastFree_39 : decode cX5_leastFree 39 = .ok (.iload 4, 2) := by decide +kernel
theorem dX5_leastFree_41 : decode cX5_leastFree 41 = .ok (.baload, 1) := by decide +kernel
theorem dX5_leastFree_42 : decode cX5_leastFree 42 = .ok (.ifCond .eq 18, 3) := by decide +kernel
theorem dX5_leastFree_45 : decode cX5_leastFree 45 = .ok (.aload_n 0, 1) := by decide +kernel
theorem dX5_leastFree_46 : decode cX5_leastFree 46 = .ok (.getfield 44, 3) := by decide +kernel
theorem dX5_leastFree_49 : decode cX5_leastFree 49 = .ok (.iload 4, 2) := by decide +kernel
theorem dX5_leastFree_51 : decode cX5_leastFree 51 = .ok (.iaload, 1) := by decide +kernel
theorem dX5_leastFree_52 : decode cX5_leastFree 52 = .ok (.iload_n 2, 1) := by decide +kernel
theorem dX5_leastFree_53 : decode cX5_leastFree 53 = .ok (.if_icmp .ne 7, 3) := by decide +kernel
theorem dX5_leastFree_56 : decode cX5_leastFree 56 = .ok (.iconst 1, 1) := by decide +kernel
theorem dX5_leastFree_57 : decode cX5_leastFree 57 = .ok (.goto 4, 3) := by decide +kernel
theorem dX5_leastFree_60 : decode cX5_leastFree 60 = .ok (.iconst 0, 1) := by decide +kernel
theorem dX5_leastFree_61 : decode cX5_leastFree 61 = .ok (.istore_n 3, 1) := by decide +kernel
theorem dX5_leastFree_62 : decode cX5_leastFree 62 = .ok (.iinc 4 1, 3) := by decide +kernel
theorem dX5_leastFree_65 : decode cX5_leastFree 65 = .ok (.goto (-40), 3) := by decide +kernel
theorem dX5_leastFree_68 : decode cX5_leastFree 68 = .ok (.iload_n 2, 1) := by decide +kernel
theorem dX5_leastFree_69 : decode cX5_leastFree 69 = .ok (.iload_n 3, 1) := by decide +kernel
theorem dX5_leastFree_70 : decode cX5_leastFree 70 = .ok (.ifCond .eq 7, 3) := by decide +kernel
theorem dX5_leastFree_73 : decode cX5_leastFree 73 = .ok (.iconst 1, 1) := by decide +kernel
theorem dX5_leastFree_74 : decode cX5_leastFree 74 = .ok (.goto 4, 3) := by decide +kernel
theorem dX5_leastFree_77 : decode cX5_leastFree 77 = .ok (.iconst 0, 1) := by decide +kernel
theorem dX5_leastFree_78 : decode cX5_leastFree 78 = .ok (.iadd, 1) := by decide +kernel
theorem dX5_leastFree_79 : decode cX5_leastFree 79 = .ok (.istore_n 2, 1) := by decide +kernel
theorem dX5_leastFree_80 : decode cX5_leastFree 80 = .ok (.goto (-76), 3) := by decide +kernel
theorem dX5_leastFree_83 : decode cX5_leastFree 83 = .ok (.iload_n 2, 1) := by decide +kernel
theorem dX5_leastFree_84 : decode cX5_leastFree 84 = .ok (.ireturn, 1) := by decide +kernel
theorem dX5_version_0 : decode cX5_version 0 = .ok (.aload_n 0, 1) := by decide +kernel
theorem dX5_version_1 : decode cX5_version 1 = .ok (.aload_n 0, 1) := by decide +kernel
theorem dX5_version_2 : decode cX5_version 2 = .ok (.getfield 94, 3) := by decide +kernel
theorem dX5_version_5 : decode cX5_version 5 = .ok (.ifCond .eq 7, 3) := by decide +kernel
theorem dX5_version_8 : decode cX5_version 8 = .ok (.iconst 0, 1) := by decide +kernel
theorem dX5_version_9 : decode cX5_version 9 = .ok (.goto 4, 3) := by decide +kernel
theorem dX5_version_12 : decode cX5_version 12 = .ok (.iconst 1, 1) := by decide +kernel
theorem dX5_version_13 : decode cX5_version 13 = .ok (.putfield 75, 3) := by decide +kernel
theorem dX5_version_16 : decode cX5_version 16 = .ok (.aload_n 0, 1) := by decide +kernel
theorem dX5_version_17 : decode cX5_version 17 = .ok (.getfield 75, 3) := by decide +kernel
theorem dX5_version_20 : decode cX5_version 20 = .ok (.ifCond .le 5, 3) := by decide +kernel
theorem dX5_version_23 : decode cX5_version 23 = .ok (.iconst 0, 1) := by decide +kernel
theorem dX5_version_24 : decode cX5_version 24 = .ok (.ireturn, 1) := by decide +kernel
theorem dX5_version_25 : decode cX5_version 25 = .ok (.aload_n 0, 1) := by decide +kernel
theorem dX5_version_26 : decode cX5_version 26 = .ok (.getfield 110, 3) := by decide +kernel
theorem dX5_version_29 : decode cX5_version 29 = .ok (.bipush 100, 2) := by decide +kernel
theorem dX5_version_31 : decode cX5_version 31 = .ok (.if_icmp .ne 6, 3) := by decide +kernel
theorem dX5_version_34 : decode cX5_version 34 = .ok (.bipush (-3), 2) := by decide +kernel
theorem dX5_version_36 : decode cX5_version 36 = .ok (.ireturn, 1) := by decide +kernel
theorem dX5_version_37 : decode cX5_version 37 = .ok (.bipush 28, 2) := by decide +kernel
theorem dX5_version_39 : decode cX5_version 39 = .ok (.istore_n 1, 1) := by decide +kernel
theorem dX5_version_40 : decode cX5_version 40 = .ok (.iconst 0, 1) := by decide +kernel
theorem dX5_version_41 : decode cX5_version 41 = .ok (.istore_n 2, 1) := by decide +kernel
theorem dX5_version_42 : decode cX5_version 42 = .ok (.iload_n 2, 1) := by decide +kernel
theorem dX5_version_43 : decode cX5_version 43 = .ok (.bipush 8, 2) := by decide +kernel
theorem dX5_version_45 : decode cX5_version 45 = .ok (.if_icmp .ge 110, 3) := by decide +kernel
theorem dX5_version_48 : decode cX5_version 48 = .ok (.aload_n 0, 1) := by decide +kernel
theorem dX5_version_49 : decode cX5_version 49 = .ok (.getfield 44, 3) := by decide +kernel
theorem dX5_version_52 : decode cX5_version 52 = .ok (.iload_n 2, 1) := by decide +kernel
theorem dX5_version_53 : decode cX5_version 53 = .ok (.aload_n 0, 1) := by decide +kernel
theorem dX5_version_54 : decode cX5_version 54 = .ok (.iload_n 2, 1) := by decide +kernel
theorem dX5_version_55 : decode cX5_version 55 = .ok (.invokevirtual 169, 3) := by decide +kernel
theorem dX5_version_58 : decode cX5_version 58 = .ok (.iastore, 1) := by decide +kernel
theorem dX5_version_59 : decode cX5_version 59 = .ok (.aload_n 0, 1) := by decide +kernel
theorem dX5_version_60 : decode cX5_version 60 = .ok (.getfield 47, 3) := by decide +kernel
theorem dX5_version_63 : decode cX5_version 63 = .ok (.iload_n 2, 1) := by decide +kernel
theorem dX5_version_64 : decode cX5_version 64 = .ok (.iconst 0, 1) := by decide +kernel
theorem dX5_version_65 : decode cX5_version 65 = .ok (.bastore, 1) := by decide +kernel
theorem dX5_version_66 : decode cX5_version 66 = .ok (.aload_n 0, 1) := by decide +kernel
theorem dX5_version_67 : decode cX5_version 67 = .ok (.iload_n 2, 1) := by decide +kernel
theorem dX5_version_68 : decode cX5_version 68 = .ok (.invokevirtual 172, 3) := by decide +kernel
theorem dX5_version_71 : decode cX5_version 71 = .ok (.istore_n 3, 1) := by decide +kernel
theorem dX5_version_72 : decode cX5_version 72 = .ok (.aload_n 0, 1) := by decide +kernel
theorem dX5_version_73 : decode cX5_version 73 = .ok (.getfield 44, 3) := by decide +kernel
theorem dX5_version_76 : decode cX5_version 76 = .ok (.iload_n 2, 1) := by decide +kernel
theorem dX5_version_77 : decode cX5_version 77 = .ok (.iaload, 1) := by decide +kernel
theorem dX5_version_78 : decode cX5_version 78 = .ok (.iconst (-1), 1) := by decide +kernel
theorem dX5_version_79 : decode cX5_version 79 = .ok (.if_icmp .ne 20, 3) := by decide +kernel
theorem dX5_version_82 : decode cX5_version 82 = .ok (.iload_n 3, 1) := by decide +kernel
theorem dX5_version_83 : decode cX5_version 83 = .ok (.iconst (-1), 1) := by decide +kernel
theorem dX5_version_84 : decode cX5_version 84 = .ok (.if_icmp .eq 15, 3) := by decide +kernel
theorem dX5_version_87 : decode cX5_version 87 = .ok (.aload_n 0, 1) := by decide +kernel
theorem dX5_version_88 : decode cX5_version 88 = .ok (.getfield 44, 3) := by decide +kernel
theorem dX5_version_91 : decode cX5_version 91 = .ok (.iload_n 2, 1) := by decide +kernel
theorem dX5_version_92 : decode cX5_version 92 = .ok (.aload_n 0, 1) := by decide +kernel
theorem dX5_version_93 : decode cX5_version 93 = .ok (.getfield 44, 3) := by decide +kernel
theorem dX5_version_96 : decode cX5_version 96 = .ok (.iload_n 3, 1) := by decide +kernel
theorem dX5_version_97 : decode cX5_version 97 = .ok (.iaload, 1) := by decide +kernel
theorem dX5_version_98 : decode cX5_version 98 = .ok (.iastore, 1) := by decide +kernel
theorem dX5_version_99 : decode cX5_version 99 = .ok (.aload_n 0, 1) := by decide +kernel
theorem dX5_version_100 : decode cX5_version 100 = .ok (.getfield 44, 3) := by decide +kernel
theorem dX5_version_103 : decode cX5_version 103 = .ok (.iload_n 2, 1) := by decide +kernel
theorem dX5_version_104 : decode cX5_version 104 = .ok (.iaload, 1) := by decide +kernel
theorem dX5_version_105 : decode cX5_version 105 = .ok (.iconst (-1), 1) := by decide +kernel
theorem dX5_version_106 : decode cX5_version 106 = .ok (.if_icmp .eq 6, 3) := by decide +kernel
theorem dX5_version_109 : decode cX5_version 109 = .ok (.goto 40, 3) := by decide +kernel
theorem dX5_version_112 : decode cX5_version 112 = .ok (.aload_n 0, 1) := by decide +kernel
theorem dX5_version_113 : decode cX5_version 113 = .ok (.getfield 44, 3) := by decide +kernel
theorem dX5_version_116 : decode cX5_version 116 = .ok (.iload_n 2, 1) := by decide +kernel
theorem dX5_version_117 : decode cX5_version 117 = .ok (.aload_n 0, 1) := by decide +kernel
theorem dX5_version_118 : decode cX5_version 118 = .ok (.iload_n 2, 1) := by decide +kernel
theorem dX5_version_119 : decode cX5_version 119 = .ok (.invokevirtual 175, 3) := by decide +kernel
theorem dX5_version_122 : decode cX5_version 122 = .ok (.iastore, 1) := by decide +kernel
theorem dX5_version_123 : decode cX5_version 123 = .ok (.aload_n 0, 1) := by decide +kernel
theorem dX5_version_124 : decode cX5_version 124 = .ok (.getfield 47, 3) := by decide +kernel
theorem dX5_version_127 : decode cX5_version 127 = .ok (.iload_n 2, 1) := by decide +kernel
theorem dX5_version_128 : decode cX5_version 128 = .ok (.iconst 1, 1) := by decide +kernel
theorem dX5_version_129 : decode cX5_version 129 = .ok (.bastore, 1) := by decide +kernel
theorem dX5_version_130 : decode cX5_version 130 = .ok (.iinc 1 76, 3) := by decide +kernel
theorem dX5_version_133 : decode cX5_version 133 = .ok (.aload_n 0, 1) := by decide +kernel
theorem dX5_version_134 : decode cX5_version 134 = .ok (.getfield 44, 3) := by decide +kernel
theorem dX5_version_137 : decode cX5_version 137 = .ok (.iload_n 2, 1) := by decide +kernel
theorem dX5_version_138 : decode cX5_version 138 = .ok (.iaload, 1) := by decide +kernel
theorem dX5_version_139 : decode cX5_version 139 = .ok (.aload_n 0, 1) := by decide +kernel
theorem dX5_version_140 : decode cX5_version 140 = .ok (.getfield 79, 3) := by decide +kernel
theorem dX5_version_143 : decode cX5_version 143 = .ok (.if_icmp .lt 6, 3) := by decide +kernel
theorem dX5_version_146 : decode cX5_version 146 = .ok (.bipush (-3), 2) := by decide +kernel
theorem dX5_version_148 : decode cX5_version 148 = .ok (.ireturn, 1) := by decide +kernel
theorem dX5_version_149 : decode cX5_version 149 = .ok (.iinc 2 1, 3) := by decide +kernel
theorem dX5_version_152 : decode cX5_version 152 = .ok (.goto (-110), 3) := by decide +kernel
theorem dX5_version_155 : decode cX5_version 155 = .ok (.aload_n 0, 1) := by decide +kernel
theorem dX5_version_156 : decode cX5_version 156 = .ok (.iload_n 1, 1) := by decide +kernel
theorem dX5_version_157 : decode cX5_version 157 = .ok (.invokevirtual 156, 3) := by decide +kernel
theorem dX5_version_160 : decode cX5_version 160 = .ok (.ifCond .ne 6, 3) := by decide +kernel
theorem dX5_version_163 : decode cX5_version 163 = .ok (.bipush (-3), 2) := by decide +kernel
theorem dX5_version_165 : decode cX5_version 165 = .ok (.ireturn, 1) := by decide +kernel
theorem dX5_version_166 : decode cX5_version 166 = .ok (.iconst 0, 1) := by decide +kernel
theorem dX5_version_167 : decode cX5_version 167 = .ok (.istore_n 2, 1) := by decide +kernel
theorem dX5_version_168 : decode cX5_version 168 = .ok (.iload_n 2, 1) := by decide +kernel
theorem dX5_version_169 : decode cX5_version 169 = .ok (.bipush 8, 2) := by decide +kernel
theorem dX5_version_171 : decode cX5_version 171 = .ok (.if_icmp .ge 82, 3) := by decide +kernel
theorem dX5_version_174 : decode cX5_version 174 = .ok (.aload_n 0, 1) := by decide +kernel
theorem dX5_version_175 : decode cX5_version 175 = .ok (.getfield 47, 3) := by decide +kernel
theorem dX5_version_178 : decode cX5_version 178 = .ok (.iload_n 2, 1) := by decide +kernel
theorem dX5_version_179 : decode cX5_version 179 = .ok (.baload, 1) := by decide +kernel
theorem dX5_version_180 : decode cX5_version 180 = .ok (.ifCond .ne 6, 3) := by decide +kernel
theorem dX5_version_183 : decode cX5_version 183 = .ok (.goto 64, 3) := by decide +kernel
theorem dX5_version_186 : decode cX5_version 186 = .ok (.aload_n 0, 1) := by decide +kernel
theorem dX5_version_187 : decode cX5_version 187 = .ok (.iconst 1, 1) := by decide +kernel
theorem dX5_version_188 : decode cX5_version 188 = .ok (.aload_n 0, 1) := by decide +kernel
theorem dX5_version_189 : decode cX5_version 189 = .ok (.getfield 44, 3) := by decide +kernel
theorem dX5_version_192 : decode cX5_version 192 = .ok (.iload_n 2, 1) := by decide +kernel
theorem dX5_version_193 : decode cX5_version 193 = .ok (.iaload, 1) := by decide +kernel
theorem dX5_version_194 : decode cX5_version 194 = .ok (.bipush 64, 2) := by decide +kernel
theorem dX5_version_196 : decode cX5_version 196 = .ok (.invokevirtual 159, 3) := by decide +kernel
theorem dX5_version_199 : decode cX5_version 199 = .ok (.istore_n 3, 1) := by decide +kernel
theorem dX5_version_200 : decode cX5_version 200 = .ok (.iconst 0, 1) := by decide +kernel
theorem dX5_version_201 : decode cX5_version 201 = .ok (.istore 4, 2) := by decide +kernel
theorem dX5_version_203 : decode cX5_version 203 = .ok (.iload 4, 2) := by decide +kernel
theorem dX5_version_205 : decode cX5_version 205 = .ok (.bipush 8, 2) := by decide +kernel
theorem dX5_version_207 : decode cX5_version 207 = .ok (.if_icmp .ge 34, 3) := by decide +kernel
theorem dX5_version_210 : decode cX5_version 210 = .ok (.aload_n 0, 1) := by decide +kernel
theorem dX5_version_211 : decode cX5_version 211 = .ok (.iload_n 3, 1) := by decide +kernel
theorem dX5_version_212 : decode cX5_version 212 = .ok (.bipush 8, 2) := by decide +kernel
theorem dX5_version_214 : decode cX5_version 214 = .ok (.iload 4, 2) := by decide +kernel
theorem dX5_version_216 : decode cX5_version 216 = .ok (.imul, 1) := by decide +kernel
theorem dX5_version_217 : decode cX5_version 217 = .ok (.iadd, 1) := by decide +kernel
theorem dX5_version_218 : decode cX5_version 218 = .ok (.aload_n 0, 1) := by decide +kernel
theorem dX5_version_219 : decode cX5_version 219 = .ok (.getfield 20, 3) := by decide +kernel
theorem dX5_version_222 : decode cX5_version 222 = .ok (.bipush 8, 2) := by decide +kernel
theorem dX5_version_224 : decode cX5_version 224 = .ok (.iload_n 2, 1) := by decide +kernel
theorem dX5_version_225 : decode cX5_version 225 = .ok (.imul, 1) := by decide +kernel
theorem dX5_version_226 : decode cX5_version 226 = .ok (.iload 4, 2) := by decide +kernel
theorem dX5_version_228 : decode cX5_version 228 = .ok (.iadd, 1) := by decide +kernel
theorem dX5_version_229 : decode cX5_version 229 = .ok (.laload, 1) := by decide +kernel
theorem dX5_version_230 : decode cX5_version 230 = .ok (.bipush 8, 2) := by decide +kernel
theorem dX5_version_232 : decode cX5_version 232 = .ok (.invokevirtual 122, 3) := by decide +kernel
theorem dX5_version_235 : decode cX5_version 235 = .ok (.iinc 4 1, 3) := by decide +kernel
theorem dX5_version_238 : decode cX5_version 238 = .ok (.goto (-35), 3) := by decide +kernel
theorem dX5_version_241 : decode cX5_version 241 = .ok (.aload_n 0, 1) := by decide +kernel
theorem dX5_version_242 : decode cX5_version 242 = .ok (.bipush 64, 2) := by decide +kernel
theorem dX5_version_244 : decode cX5_version 244 = .ok (.invokevirtual 163, 3) := by decide +kernel
theorem dX5_version_247 : decode cX5_version 247 = .ok (.iinc 2 1, 3) := by decide +kernel
theorem dX5_version_250 : decode cX5_version 250 = .ok (.goto (-82), 3) := by decide +kernel
theorem dX5_version_253 : decode cX5_version 253 = .ok (.aload_n 0, 1) := by decide +kernel
theorem dX5_version_254 : decode cX5_version 254 = .ok (.iconst 3, 1) := by decide +kernel
theorem dX5_version_255 : decode cX5_version 255 = .ok (.aload_n 0, 1) := by decide +kernel
theorem dX5_version_256 : decode cX5_version 256 = .ok (.getfield 110, 3) := by decide +kernel
theorem dX5_version_259 : decode cX5_version 259 = .ok (.bipush 16, 2) := by decide +kernel
theorem dX5_version_261 : decode cX5_version 261 = .ok (.invokevirtual 159, 3) := by decide +kernel
theorem dX5_version_264 : decode cX5_version 264 = .ok (.istore_n 2, 1) := by decide +kernel
theorem dX5_version_265 : decode cX5_version 265 = .ok (.iconst 0, 1) := by decide +kernel
theorem dX5_version_266 : decode cX5_version 266 = .ok (.istore_n 3, 1) := by decide +kernel
theorem dX5_version_267 : decode cX5_version 267 = .ok (.iload_n 3, 1) := by decide +kernel
theorem dX5_version_268 : decode cX5_version 268 = .ok (.bipush 8, 2) := by decide +kernel
theorem dX5_version_270 : decode cX5_version 270 = .ok (.if_icmp .ge 26, 3) := by decide +kernel
theorem dX5_version_273 : decode cX5_version 273 = .ok (.aload_n 0, 1) := by decide +kernel
theorem dX5_version_274 : decode cX5_version 274 = .ok (.iload_n 2, 1) := by decide +kernel
theorem dX5_version_275 : decode cX5_version 275 = .ok (.iconst 2, 1) := by decide +kernel
theorem dX5_version_276 : decode cX5_version 276 = .ok (.iload_n 3, 1) := by decide +kernel
theorem dX5_version_277 : decode cX5_version 277 = .ok (.imul, 1) := by decide +kernel
theorem dX5_version_278 : decode cX5_version 278 = .ok (.iadd, 1) := by decide +kernel
theorem dX5_version_279 : decode cX5_version 279 = .ok (.aload_n 0, 1) := by decide +kernel
theorem dX5_version_280 : decode cX5_version 280 = .ok (.getfield 44, 3) := by decide +kernel
theorem dX5_version_283 : decode cX5_version 283 = .ok (.iload_n 3, 1) := by decide +kernel
theorem dX5_version_284 : decode cX5_version 284 = .ok (.iaload, 1) := by decide +kernel
theorem dX5_version_285 : decode cX5_version 285 = .ok (.i2l, 1) := by decide +kernel
theorem dX5_version_286 : decode cX5_version 286 = .ok (.iconst 2, 1) := by decide +kernel
theorem dX5_version_287 : decode cX5_version 287 = .ok (.invokevirtual 122, 3) := by decide +kernel
theorem dX5_version_290 : decode cX5_version 290 = .ok (.iinc 3 1, 3) := by decide +kernel
theorem dX5_version_293 : decode cX5_version 293 = .ok (.goto (-26), 3) := by decide +kernel
theorem dX5_version_296 : decode cX5_version 296 = .ok (.aload_n 0, 1) := by decide +kernel
theorem dX5_version_297 : decode cX5_version 297 = .ok (.bipush 16, 2) := by decide +kernel
theorem dX5_version_299 : decode cX5_version 299 = .ok (.invokevirtual 163, 3) := by decide +kernel
theorem dX5_version_302 : decode cX5_version 302 = .ok (.aload_n 0, 1) := by decide +kernel
theorem dX5_version_303 : decode cX5_version 303 = .ok (.getfield 110, 3) := by decide +kernel
theorem dX5_version_306 : decode cX5_version 306 = .ok (.iconst 1, 1) := by decide +kernel
theorem dX5_version_307 : decode cX5_version 307 = .ok (.isub, 1) := by decide +kernel
theorem dX5_version_308 : decode cX5_version 308 = .ok (.ireturn, 1) := by decide +kernel
theorem dX5_edges_0 : decode cX5_edges 0 = .ok (.iload_n 1, 1) := by decide +kernel
theorem dX5_edges_1 : decode cX5_edges 1 = .ok (.iconst (-1), 1) := by decide +kernel
theorem dX5_edges_2 : decode cX5_edges 2 = .ok (.if_icmp .ne 12, 3) := by decide +kernel
theorem dX5_edges_5 : decode cX5_edges 5 = .ok (.aload_n 0, 1) := by decide +kernel
theorem dX5_edges_6 : decode cX5_edges 6 = .ok (.getfield 20, 3) := by decide +kernel
theorem dX5_edges_9 : decode cX5_edges 9 = .ok (.iload_n 2, 1) := by decide +kernel
theorem dX5_edges_10 : decode cX5_edges 10 = .ok (.laload, 1) := by decide +kernel
theorem dX5_edges_11 : decode cX5_edges 11 = .ok (.goto 35, 3) := by decide +kernel
theorem dX5_edges_14 : decode cX5_edges 14 = .ok (.aload_n 0, 1) := by decide +kernel
theorem dX5_edges_15 : decode cX5_edges 15 = .ok (.getfield 28, 3) := by decide +kernel
theorem dX5_edges_18 : decode cX5_edges 18 = .ok (.bipush 8, 2) := by decide +kernel
theorem dX5_edges_20 : decode cX5_edges 20 = .ok (.aload_n 0, 1) := by decide +kernel
theorem dX5_edges_21 : decode cX5_edges 21 = .ok (.getfield 25, 3) := by decide +kernel
theorem dX5_edges_24 : decode cX5_edges 24 = .ok (.aload_n 0, 1) := by decide +kernel
theorem dX5_edges_25 : decode cX5_edges 25 = .ok (.getfield 35, 3) := by decide +kernel
theorem dX5_edges_28 : decode cX5_edges 28 = .ok (.bipush 8, 2) := by decide +kernel
theorem dX5_edges_30 : decode cX5_edges 30 = .ok (.iload_n 1, 1) := by decide +kernel
theorem dX5_edges_31 : decode cX5_edges 31 = .ok (.imul, 1) := by decide +kernel
theorem dX5_edges_32 : decode cX5_edges 32 = .ok (.iload_n 2, 1) := by decide +kernel
theorem dX5_edges_33 : decode cX5_edges 33 = .ok (.bipush 8, 2) := by decide +kernel
theorem dX5_edges_35 : decode cX5_edges 35 = .ok (.idiv, 1) := by decide +kernel
theorem dX5_edges_36 : decode cX5_edges 36 = .ok (.iadd, 1) := by decide +kernel
theorem dX5_edges_37 : decode cX5_edges 37 = .ok (.iaload, 1) := by decide +kernel
theorem dX5_edges_38 : decode cX5_edges 38 = .ok (.iaload, 1) := by decide +kernel
theorem dX5_edges_39 : decode cX5_edges 39 = .ok (.imul, 1) := by decide +kernel
theorem dX5_edges_40 : decode cX5_edges 40 = .ok (.iload_n 2, 1) := by decide +kernel
theorem dX5_edges_41 : decode cX5_edges 41 = .ok (.bipush 8, 2) := by decide +kernel
theorem dX5_edges_43 : decode cX5_edges 43 = .ok (.irem, 1) := by decide +kernel
theorem dX5_edges_44 : decode cX5_edges 44 = .ok (.iadd, 1) := by decide +kernel
theorem dX5_edges_45 : decode cX5_edges 45 = .ok (.laload, 1) := by decide +kernel
theorem dX5_edges_46 : decode cX5_edges 46 = .ok (.lreturn, 1) := by decide +kernel
theorem dX5_reach_0 : decode cX5_reach 0 = .ok (.lconst 1, 1) := by decide +kernel
theorem dX5_reach_1 : decode cX5_reach 1 = .ok (.iload_n 2, 1) := by decide +kernel
theorem dX5_reach_2 : decode cX5_reach 2 = .ok (.lshl, 1) := by decide +kernel
theorem dX5_reach_3 : decode cX5_reach 3 = .ok (.lstore_n 3, 1) := by decide +kernel
theorem dX5_reach_4 : decode cX5_reach 4 = .ok (.lconst 0, 1) := by decide +kernel
theorem dX5_reach_5 : decode cX5_reach 5 = .ok (.lstore 5, 2) := by decide +kernel
theorem dX5_reach_7 : decode cX5_reach 7 = .ok (.lload_n 3, 1) := by decide +kernel
theorem dX5_reach_8 : decode cX5_reach 8 = .ok (.lload 5, 2) := by decide +kernel
theorem dX5_reach_10 : decode cX5_reach 10 = .ok (.lcmp, 1) := by decide +kernel
theorem dX5_reach_11 : decode cX5_reach 11 = .ok (.ifCond .eq 47, 3) := by decide +kernel
theorem dX5_reach_14 : decode cX5_reach 14 = .ok (.lload_n 3, 1) := by decide +kernel
theorem dX5_reach_15 : decode cX5_reach 15 = .ok (.lstore 5, 2) := by decide +kernel
theorem dX5_reach_17 : decode cX5_reach 17 = .ok (.iconst 0, 1) := by decide +kernel
theorem dX5_reach_18 : decode cX5_reach 18 = .ok (.istore 7, 2) := by decide +kernel
theorem dX5_reach_20 : decode cX5_reach 20 = .ok (.iload 7, 2) := by decide +kernel
theorem dX5_reach_22 : decode cX5_reach 22 = .ok (.bipush 64, 2) := by decide +kernel
theorem dX5_reach_24 : decode cX5_reach 24 = .ok (.if_icmp .ge 31, 3) := by decide +kernel
theorem dX5_reach_27 : decode cX5_reach 27 = .ok (.lload 5, 2) := by decide +kernel
theorem dX5_reach_29 : decode cX5_reach 29 = .ok (.iload 7, 2) := by decide +kernel
theorem dX5_reach_31 : decode cX5_reach 31 = .ok (.lushr, 1) := by decide +kernel
theorem dX5_reach_32 : decode cX5_reach 32 = .ok (.lconst 1, 1) := by decide +kernel
theorem dX5_reach_33 : decode cX5_reach 33 = .ok (.land, 1) := by decide +kernel
theorem dX5_reach_34 : decode cX5_reach 34 = .ok (.lconst 1, 1) := by decide +kernel
theorem dX5_reach_35 : decode cX5_reach 35 = .ok (.lcmp, 1) := by decide +kernel
theorem dX5_reach_36 : decode cX5_reach 36 = .ok (.ifCond .ne 13, 3) := by decide +kernel
theorem dX5_reach_39 : decode cX5_reach 39 = .ok (.lload_n 3, 1) := by decide +kernel
theorem dX5_reach_40 : decode cX5_reach 40 = .ok (.aload_n 0, 1) := by decide +kernel
theorem dX5_reach_41 : decode cX5_reach 41 = .ok (.iload_n 1, 1) := by decide +kernel
theorem dX5_reach_42 : decode cX5_reach 42 = .ok (.iload 7, 2) := by decide +kernel
theorem dX5_reach_44 : decode cX5_reach 44 = .ok (.invokevirtual 178, 3) := by decide +kernel
theorem dX5_reach_47 : decode cX5_reach 47 = .ok (.lor, 1) := by decide +kernel
theorem dX5_reach_48 : decode cX5_reach 48 = .ok (.lstore_n 3, 1) := by decide +kernel
theorem dX5_reach_49 : decode cX5_reach 49 = .ok (.iinc 7 1, 3) := by decide +kernel
theorem dX5_reach_52 : decode cX5_reach 52 = .ok (.goto (-32), 3) := by decide +kernel
theorem dX5_reach_55 : decode cX5_reach 55 = .ok (.goto (-48), 3) := by decide +kernel
theorem dX5_reach_58 : decode cX5_reach 58 = .ok (.lload_n 3, 1) := by decide +kernel
theorem dX5_reach_59 : decode cX5_reach 59 = .ok (.lreturn, 1) := by decide +kernel
theorem dX5_answer_0 : decode cX5_answer 0 = .ok (.aload_n 0, 1) := by decide +kernel
theorem dX5_answer_1 : decode cX5_answer 1 = .ok (.aload_n 0, 1) := by decide +kernel
theorem dX5_answer_2 : decode cX5_answer 2 = .ok (.getfield 94, 3) := by decide +kernel
theorem dX5_answer_5 : decode cX5_answer 5 = .ok (.ifCond .ne 7, 3) := by decide +kernel
theorem dX5_answer_8 : decode cX5_answer 8 = .ok (.iconst 1, 1) := by decide +kernel
theorem dX5_answer_9 : decode cX5_answer 9 = .ok (.goto 26, 3) := by decide +kernel
theorem dX5_answer_12 : decode cX5_answer 12 = .ok (.aload_n 0, 1) := by decide +kernel
theorem dX5_answer_13 : decode cX5_answer 13 = .ok (.iload_n 1, 1) := by decide +kernel
theorem dX5_answer_14 : decode cX5_answer 14 = .ok (.invokevirtual 152, 3) := by decide +kernel
theorem dX5_answer_17 : decode cX5_answer 17 = .ok (.ifCond .eq 13, 3) := by decide +kernel
theorem dX5_answer_20 : decode cX5_answer 20 = .ok (.iload_n 2, 1) := by decide +kernel
theorem dX5_answer_21 : decode cX5_answer 21 = .ok (.iconst 0, 1) := by decide +kernel
theorem dX5_answer_22 : decode cX5_answer 22 = .ok (.bipush 63, 2) := by decide +kernel
theorem dX5_answer_24 : decode cX5_answer 24 = .ok (.invokestatic 133, 3) := by decide +kernel
theorem dX5_answer_27 : decode cX5_answer 27 = .ok (.ifCond .ne 7, 3) := by decide +kernel
theorem dX5_answer_30 : decode cX5_answer 30 = .ok (.iconst 2, 1) := by decide +kernel
theorem dX5_answer_31 : decode cX5_answer 31 = .ok (.goto 4, 3) := by decide +kernel
theorem dX5_answer_34 : decode cX5_answer 34 = .ok (.iconst 0, 1) := by decide +kernel
theorem dX5_answer_35 : decode cX5_answer 35 = .ok (.putfield 75, 3) := by decide +kernel
theorem dX5_answer_38 : decode cX5_answer 38 = .ok (.aload_n 0, 1) := by decide +kernel
theorem dX5_answer_39 : decode cX5_answer 39 = .ok (.getfield 75, 3) := by decide +kernel
theorem dX5_answer_42 : decode cX5_answer 42 = .ok (.ifCond .le 5, 3) := by decide +kernel
theorem dX5_answer_45 : decode cX5_answer 45 = .ok (.iconst 0, 1) := by decide +kernel
theorem dX5_answer_46 : decode cX5_answer 46 = .ok (.ireturn, 1) := by decide +kernel
theorem dX5_answer_47 : decode cX5_answer 47 = .ok (.aload_n 0, 1) := by decide +kernel
theorem dX5_answer_48 : decode cX5_answer 48 = .ok (.getfield 113, 3) := by decide +kernel
theorem dX5_answer_51 : decode cX5_answer 51 = .ok (.bipush 100, 2) := by decide +kernel
theorem dX5_answer_53 : decode cX5_answer 53 = .ok (.if_icmp .eq 12, 3) := by decide +kernel
theorem dX5_answer_56 : decode cX5_answer 56 = .ok (.aload_n 0, 1) := by decide +kernel
theorem dX5_answer_57 : decode cX5_answer 57 = .ok (.bipush 22, 2) := by decide +kernel
theorem dX5_answer_59 : decode cX5_answer 59 = .ok (.invokevirtual 156, 3) := by decide +kernel
theorem dX5_answer_62 : decode cX5_answer 62 = .ok (.ifCond .ne 6, 3) := by decide +kernel
theorem dX5_answer_65 : decode cX5_answer 65 = .ok (.bipush (-3), 2) := by decide +kernel
theorem dX5_answer_67 : decode cX5_answer 67 = .ok (.ireturn, 1) := by decide +kernel
theorem dX5_answer_68 : decode cX5_answer 68 = .ok (.aload_n 0, 1) := by decide +kernel
theorem dX5_answer_69 : decode cX5_answer 69 = .ok (.iconst 4, 1) := by decide +kernel
theorem dX5_answer_70 : decode cX5_answer 70 = .ok (.aload_n 0, 1) := by decide +kernel
theorem dX5_answer_71 : decode cX5_answer 71 = .ok (.getfield 113, 3) := by decide +kernel
theorem dX5_answer_74 : decode cX5_answer 74 = .ok (.bipush 10, 2) := by decide +kernel
theorem dX5_answer_76 : decode cX5_answer 76 = .ok (.invokevirtual 159, 3) := by decide +kernel
theorem dX5_answer_79 : decode cX5_answer 79 = .ok (.istore_n 3, 1) := by decide +kernel
theorem dX5_answer_80 : decode cX5_answer 80 = .ok (.aload_n 0, 1) := by decide +kernel
theorem dX5_answer_81 : decode cX5_answer 81 = .ok (.iload_n 3, 1) := by decide +kernel
theorem dX5_answer_82 : decode cX5_answer 82 = .ok (.iload_n 1, 1) := by decide +kernel
theorem dX5_answer_83 : decode cX5_answer 83 = .ok (.invokevirtual 118, 3) := by decide +kernel
theorem dX5_answer_86 : decode cX5_answer 86 = .ok (.aload_n 0, 1) := by decide +kernel
theorem dX5_answer_87 : decode cX5_answer 87 = .ok (.iload_n 3, 1) := by decide +kernel
theorem dX5_answer_88 : decode cX5_answer 88 = .ok (.iconst 1, 1) := by decide +kernel
theorem dX5_answer_89 : decode cX5_answer 89 = .ok (.iadd, 1) := by decide +kernel
theorem dX5_answer_90 : decode cX5_answer 90 = .ok (.iload_n 2, 1) := by decide +kernel
theorem dX5_answer_91 : decode cX5_answer 91 = .ok (.invokevirtual 118, 3) := by decide +kernel
theorem dX5_answer_94 : decode cX5_answer 94 = .ok (.aload_n 0, 1) := by decide +kernel
theorem dX5_answer_95 : decode cX5_answer 95 = .ok (.iload_n 3, 1) := by decide +kernel
theorem dX5_answer_96 : decode cX5_answer 96 = .ok (.iconst 2, 1) := by decide +kernel
theorem dX5_answer_97 : decode cX5_answer 97 = .ok (.iadd, 1) := by decide +kernel
theorem dX5_answer_98 : decode cX5_answer 98 = .ok (.aload_n 0, 1) := by decide +kernel
theorem dX5_answer_99 : decode cX5_answer 99 = .ok (.iload_n 1, 1) := by decide +kernel
theorem dX5_answer_100 : decode cX5_answer 100 = .ok (.iload_n 2, 1) := by decide +kernel
theorem dX5_answer_101 : decode cX5_answer 101 = .ok (.invokevirtual 181, 3) := by decide +kernel
theorem dX5_answer_104 : decode cX5_answer 104 = .ok (.bipush 8, 2) := by decide +kernel
theorem dX5_answer_106 : decode cX5_answer 106 = .ok (.invokevirtual 122, 3) := by decide +kernel
theorem dX5_answer_109 : decode cX5_answer 109 = .ok (.aload_n 0, 1) := by decide +kernel
theorem dX5_answer_110 : decode cX5_answer 110 = .ok (.bipush 10, 2) := by decide +kernel
theorem dX5_answer_112 : decode cX5_answer 112 = .ok (.invokevirtual 163, 3) := by decide +kernel
theorem dX5_answer_115 : decode cX5_answer 115 = .ok (.aload_n 0, 1) := by decide +kernel
theorem dX5_answer_116 : decode cX5_answer 116 = .ok (.getfield 113, 3) := by decide +kernel
theorem dX5_answer_119 : decode cX5_answer 119 = .ok (.iconst 1, 1) := by decide +kernel
theorem dX5_answer_120 : decode cX5_answer 120 = .ok (.isub, 1) := by decide +kernel
theorem dX5_answer_121 : decode cX5_answer 121 = .ok (.ireturn, 1) := by decide +kernel
theorem dX5_namedMany_0 : decode cX5_namedMany 0 = .ok (.iconst 0, 1) := by decide +kernel
theorem dX5_namedMany_1 : decode cX5_namedMany 1 = .ok (.istore_n 1, 1) := by decide +kernel
theorem dX5_namedMany_2 : decode cX5_namedMany 2 = .ok (.iconst 0, 1) := by decide +kernel
theorem dX5_namedMany_3 : decode cX5_namedMany 3 = .ok (.istore_n 2, 1) := by decide +kernel
theorem dX5_namedMany_4 : decode cX5_namedMany 4 = .ok (.iload_n 2, 1) := by decide +kernel
theorem dX5_namedMany_5 : decode cX5_namedMany 5 = .ok (.ldc 24, 2) := by decide +kernel
theorem dX5_namedMany_7 : decode cX5_namedMany 7 = .ok (.if_icmp .ge 35, 3) := by decide +kernel
theorem dX5_namedMany_10 : decode cX5_namedMany 10 = .ok (.iload_n 1, 1) := by decide +kernel
theorem dX5_namedMany_11 : decode cX5_namedMany 11 = .ok (.aload_n 0, 1) := by decide +kernel
theorem dX5_namedMany_12 : decode cX5_namedMany 12 = .ok (.getfield 25, 3) := by decide +kernel
theorem dX5_namedMany_15 : decode cX5_namedMany 15 = .ok (.iload_n 2, 1) := by decide +kernel
theorem dX5_namedMany_16 : decode cX5_namedMany 16 = .ok (.iaload, 1) := by decide +kernel
theorem dX5_namedMany_17 : decode cX5_namedMany 17 = .ok (.iconst (-1), 1) := by decide +kernel
theorem dX5_namedMany_18 : decode cX5_namedMany 18 = .ok (.if_icmp .eq 15, 3) := by decide +kernel
theorem dX5_namedMany_21 : decode cX5_namedMany 21 = .ok (.aload_n 0, 1) := by decide +kernel
theorem dX5_namedMany_22 : decode cX5_namedMany 22 = .ok (.iload_n 2, 1) := by decide +kernel
theorem dX5_namedMany_23 : decode cX5_namedMany 23 = .ok (.invokevirtual 145, 3) := by decide +kernel
theorem dX5_namedMany_26 : decode cX5_namedMany 26 = .ok (.ifCond .le 7, 3) := by decide +kernel
theorem dX5_namedMany_29 : decode cX5_namedMany 29 = .ok (.iconst 1, 1) := by decide +kernel
theorem dX5_namedMany_30 : decode cX5_namedMany 30 = .ok (.goto 4, 3) := by decide +kernel
theorem dX5_namedMany_33 : decode cX5_namedMany 33 = .ok (.iconst 0, 1) := by decide +kernel
theorem dX5_namedMany_34 : decode cX5_namedMany 34 = .ok (.iadd, 1) := by decide +kernel
theorem dX5_namedMany_35 : decode cX5_namedMany 35 = .ok (.istore_n 1, 1) := by decide +kernel
theorem dX5_namedMany_36 : decode cX5_namedMany 36 = .ok (.iinc 2 1, 3) := by decide +kernel
theorem dX5_namedMany_39 : decode cX5_namedMany 39 = .ok (.goto (-35), 3) := by decide +kernel
theorem dX5_namedMany_42 : decode cX5_namedMany 42 = .ok (.iload_n 1, 1) := by decide +kernel
theorem dX5_namedMany_43 : decode cX5_namedMany 43 = .ok (.ireturn, 1) := by decide +kernel
theorem dX5_drop_0 : decode cX5_drop 0 = .ok (.aload_n 0, 1) := by decide +kernel
theorem dX5_drop_1 : decode cX5_drop 1 = .ok (.aload_n 0, 1) := by decide +kernel
theorem dX5_drop_2 : decode cX5_drop 2 = .ok (.getfield 94, 3) := by decide +kernel
theorem dX5_drop_5 : decode cX5_drop 5 = .ok (.ifCond .ne 7, 3) := by decide +kernel
theorem dX5_drop_8 : decode cX5_drop 8 = .ok (.iconst 1, 1) := by decide +kernel
theorem dX5_drop_9 : decode cX5_drop 9 = .ok (.goto 16, 3) := by decide +kernel
theorem dX5_drop_12 : decode cX5_drop 12 = .ok (.aload_n 0, 1) := by decide +kernel
theorem dX5_drop_13 : decode cX5_drop 13 = .ok (.iload_n 1, 1) := by decide +kernel
theorem dX5_drop_14 : decode cX5_drop 14 = .ok (.invokevirtual 152, 3) := by decide +kernel
theorem dX5_drop_17 : decode cX5_drop 17 = .ok (.ifCond .ne 7, 3) := by decide +kernel
theorem dX5_drop_20 : decode cX5_drop 20 = .ok (.iconst 2, 1) := by decide +kernel
theorem dX5_drop_21 : decode cX5_drop 21 = .ok (.goto 4, 3) := by decide +kernel
theorem dX5_drop_24 : decode cX5_drop 24 = .ok (.iconst 0, 1) := by decide +kernel
theorem dX5_drop_25 : decode cX5_drop 25 = .ok (.putfield 75, 3) := by decide +kernel
theorem dX5_drop_28 : decode cX5_drop 28 = .ok (.aload_n 0, 1) := by decide +kernel
theorem dX5_drop_29 : decode cX5_drop 29 = .ok (.getfield 75, 3) := by decide +kernel
theorem dX5_drop_32 : decode cX5_drop 32 = .ok (.ifCond .le 5, 3) := by decide +kernel
theorem dX5_drop_35 : decode cX5_drop 35 = .ok (.iconst 0, 1) := by decide +kernel
theorem dX5_drop_36 : decode cX5_drop 36 = .ok (.ireturn, 1) := by decide +kernel
theorem dX5_drop_37 : decode cX5_drop 37 = .ok (.aload_n 0, 1) := by decide +kernel
theorem dX5_drop_38 : decode cX5_drop 38 = .ok (.bipush 12, 2) := by decide +kernel
theorem dX5_drop_40 : decode cX5_drop 40 = .ok (.invokevirtual 156, 3) := by decide +kernel
theorem dX5_drop_43 : decode cX5_drop 43 = .ok (.ifCond .ne 6, 3) := by decide +kernel
theorem dX5_drop_46 : decode cX5_drop 46 = .ok (.bipush (-3), 2) := by decide +kernel
theorem dX5_drop_48 : decode cX5_drop 48 = .ok (.ireturn, 1) := by decide +kernel
theorem dX5_drop_49 : decode cX5_drop 49 = .ok (.aload_n 0, 1) := by decide +kernel
theorem dX5_drop_50 : decode cX5_drop 50 = .ok (.invokevirtual 184, 3) := by decide +kernel
theorem dX5_drop_53 : decode cX5_drop 53 = .ok (.istore_n 2, 1) := by decide +kernel
theorem dX5_drop_54 : decode cX5_drop 54 = .ok (.aload_n 0, 1) := by decide +kernel
theorem dX5_drop_55 : decode cX5_drop 55 = .ok (.iconst 5, 1) := by decide +kernel
theorem dX5_drop_56 : decode cX5_drop 56 = .ok (.iload_n 1, 1) := by decide +kernel
theorem dX5_drop_57 : decode cX5_drop 57 = .ok (.iconst 0, 1) := by decide +kernel
theorem dX5_drop_58 : decode cX5_drop 58 = .ok (.invokevirtual 159, 3) := by decide +kernel
theorem dX5_drop_61 : decode cX5_drop 61 = .ok (.pop, 1) := by decide +kernel
theorem dX5_drop_62 : decode cX5_drop 62 = .ok (.aload_n 0, 1) := by decide +kernel
theorem dX5_drop_63 : decode cX5_drop 63 = .ok (.iconst 0, 1) := by decide +kernel
theorem dX5_drop_64 : decode cX5_drop 64 = .ok (.invokevirtual 163, 3) := by decide +kernel
theorem dX5_drop_67 : decode cX5_drop 67 = .ok (.iload_n 2, 1) := by decide +kernel
theorem dX5_drop_68 : decode cX5_drop 68 = .ok (.aload_n 0, 1) := by decide +kernel
theorem dX5_drop_69 : decode cX5_drop 69 = .ok (.invokevirtual 184, 3) := by decide +kernel
theorem dX5_drop_72 : decode cX5_drop 72 = .ok (.isub, 1) := by decide +kernel
theorem dX5_drop_73 : decode cX5_drop 73 = .ok (.ireturn, 1) := by decide +kernel
theorem dX5_keep_0 : decode cX5_keep 0 = .ok (.aload_n 0, 1) := by decide +kernel
theorem dX5_keep_1 : decode cX5_keep 1 = .ok (.aload_n 0, 1) := by decide +kernel
theorem dX5_keep_2 : decode cX5_keep 2 = .ok (.getfield 94, 3) := by decide +kernel
theorem dX5_keep_5 : decode cX5_keep 5 = .ok (.ifCond .eq 7, 3) := by decide +kernel
theorem dX5_keep_8 : decode cX5_keep 8 = .ok (.iconst 0, 1) := by decide +kernel
theorem dX5_keep_9 : decode cX5_keep 9 = .ok (.goto 4, 3) := by decide +kernel
theorem dX5_keep_12 : decode cX5_keep 12 = .ok (.iconst 1, 1) := by decide +kernel
theorem dX5_keep_13 : decode cX5_keep 13 = .ok (.putfield 75, 3) := by decide +kernel
theorem dX5_keep_16 : decode cX5_keep 16 = .ok (.aload_n 0, 1) := by decide +kernel
theorem dX5_keep_17 : decode cX5_keep 17 = .ok (.getfield 75, 3) := by decide +kernel
theorem dX5_keep_20 : decode cX5_keep 20 = .ok (.ifCond .le 5, 3) := by decide +kernel
theorem dX5_keep_23 : decode cX5_keep 23 = .ok (.iconst 0, 1) := by decide +kernel
theorem dX5_keep_24 : decode cX5_keep 24 = .ok (.ireturn, 1) := by decide +kernel
theorem dX5_keep_25 : decode cX5_keep 25 = .ok (.aload_n 0, 1) := by decide +kernel
theorem dX5_keep_26 : decode cX5_keep 26 = .ok (.dup, 1) := by decide +kernel
theorem dX5_keep_27 : decode cX5_keep 27 = .ok (.getfield 88, 3) := by decide +kernel
theorem dX5_keep_30 : decode cX5_keep 30 = .ok (.iconst 1, 1) := by decide +kernel
theorem dX5_keep_31 : decode cX5_keep 31 = .ok (.iadd, 1) := by decide +kernel
theorem dX5_keep_32 : decode cX5_keep 32 = .ok (.putfield 88, 3) := by decide +kernel
theorem dX5_keep_35 : decode cX5_keep 35 = .ok (.aload_n 0, 1) := by decide +kernel
theorem dX5_keep_36 : decode cX5_keep 36 = .ok (.aload_n 0, 1) := by decide +kernel
theorem dX5_keep_37 : decode cX5_keep 37 = .ok (.getfield 88, 3) := by decide +kernel
theorem dX5_keep_40 : decode cX5_keep 40 = .ok (.invokevirtual 91, 3) := by decide +kernel
theorem dX5_keep_43 : decode cX5_keep 43 = .ok (.aload_n 0, 1) := by decide +kernel
theorem dX5_keep_44 : decode cX5_keep 44 = .ok (.getfield 88, 3) := by decide +kernel
theorem dX5_keep_47 : decode cX5_keep 47 = .ok (.ireturn, 1) := by decide +kernel
theorem dX5_crash_0 : decode cX5_crash 0 = .ok (.aload_n 0, 1) := by decide +kernel
theorem dX5_crash_1 : decode cX5_crash 1 = .ok (.iconst 0, 1) := by decide +kernel
theorem dX5_crash_2 : decode cX5_crash 2 = .ok (.putfield 75, 3) := by decide +kernel
theorem dX5_crash_5 : decode cX5_crash 5 = .ok (.aload_n 0, 1) := by decide +kernel
theorem dX5_crash_6 : decode cX5_crash 6 = .ok (.getfield 94, 3) := by decide +kernel
theorem dX5_crash_9 : decode cX5_crash 9 = .ok (.ifCond .ne 5, 3) := by decide +kernel
theorem dX5_crash_12 : decode cX5_crash 12 = .ok (.iconst 0, 1) := by decide +kernel
theorem dX5_crash_13 : decode cX5_crash 13 = .ok (.ireturn, 1) := by decide +kernel
theorem dX5_crash_14 : decode cX5_crash 14 = .ok (.aload_n 0, 1) := by decide +kernel
theorem dX5_crash_15 : decode cX5_crash 15 = .ok (.iconst 0, 1) := by decide +kernel
theorem dX5_crash_16 : decode cX5_crash 16 = .ok (.putfield 94, 3) := by decide +kernel
theorem dX5_crash_19 : decode cX5_crash 19 = .ok (.iload_n 1, 1) := by decide +kernel
theorem dX5_crash_20 : decode cX5_crash 20 = .ok (.ifCond .ge 7, 3) := by decide +kernel
theorem dX5_crash_23 : decode cX5_crash 23 = .ok (.iconst 0, 1) := by decide +kernel
theorem dX5_crash_24 : decode cX5_crash 24 = .ok (.goto 19, 3) := by decide +kernel
theorem dX5_crash_27 : decode cX5_crash 27 = .ok (.iload_n 1, 1) := by decide +kernel
theorem dX5_crash_28 : decode cX5_crash 28 = .ok (.aload_n 0, 1) := by decide +kernel
theorem dX5_crash_29 : decode cX5_crash 29 = .ok (.getfield 85, 3) := by decide +kernel
theorem dX5_crash_32 : decode cX5_crash 32 = .ok (.if_icmp .ge 7, 3) := by decide +kernel
theorem dX5_crash_35 : decode cX5_crash 35 = .ok (.iload_n 1, 1) := by decide +kernel
theorem dX5_crash_36 : decode cX5_crash 36 = .ok (.goto 7, 3) := by decide +kernel
theorem dX5_crash_39 : decode cX5_crash 39 = .ok (.aload_n 0, 1) := by decide +kernel
theorem dX5_crash_40 : decode cX5_crash 40 = .ok (.getfield 85, 3) := by decide +kernel
theorem dX5_crash_43 : decode cX5_crash 43 = .ok (.istore_n 2, 1) := by decide +kernel
theorem dX5_crash_44 : decode cX5_crash 44 = .ok (.iconst 0, 1) := by decide +kernel
theorem dX5_crash_45 : decode cX5_crash 45 = .ok (.istore_n 3, 1) := by decide +kernel
theorem dX5_crash_46 : decode cX5_crash 46 = .ok (.iload_n 3, 1) := by decide +kernel
theorem dX5_crash_47 : decode cX5_crash 47 = .ok (.iload_n 2, 1) := by decide +kernel
theorem dX5_crash_48 : decode cX5_crash 48 = .ok (.if_icmp .ge 42, 3) := by decide +kernel
theorem dX5_crash_51 : decode cX5_crash 51 = .ok (.aload_n 0, 1) := by decide +kernel
theorem dX5_crash_52 : decode cX5_crash 52 = .ok (.dup, 1) := by decide +kernel
theorem dX5_crash_53 : decode cX5_crash 53 = .ok (.getfield 85, 3) := by decide +kernel
theorem dX5_crash_56 : decode cX5_crash 56 = .ok (.iconst 1, 1) := by decide +kernel
theorem dX5_crash_57 : decode cX5_crash 57 = .ok (.isub, 1) := by decide +kernel
theorem dX5_crash_58 : decode cX5_crash 58 = .ok (.putfield 85, 3) := by decide +kernel
theorem dX5_crash_61 : decode cX5_crash 61 = .ok (.aload_n 0, 1) := by decide +kernel
theorem dX5_crash_62 : decode cX5_crash 62 = .ok (.getfield 7, 3) := by decide +kernel
theorem dX5_crash_65 : decode cX5_crash 65 = .ok (.aload_n 0, 1) := by decide +kernel
theorem dX5_crash_66 : decode cX5_crash 66 = .ok (.getfield 14, 3) := by decide +kernel
theorem dX5_crash_69 : decode cX5_crash 69 = .ok (.aload_n 0, 1) := by decide +kernel
theorem dX5_crash_70 : decode cX5_crash 70 = .ok (.getfield 85, 3) := by decide +kernel
theorem dX5_crash_73 : decode cX5_crash 73 = .ok (.iaload, 1) := by decide +kernel
theorem dX5_crash_74 : decode cX5_crash 74 = .ok (.aload_n 0, 1) := by decide +kernel
theorem dX5_crash_75 : decode cX5_crash 75 = .ok (.getfield 17, 3) := by decide +kernel
theorem dX5_crash_78 : decode cX5_crash 78 = .ok (.aload_n 0, 1) := by decide +kernel
theorem dX5_crash_79 : decode cX5_crash 79 = .ok (.getfield 85, 3) := by decide +kernel
theorem dX5_crash_82 : decode cX5_crash 82 = .ok (.iaload, 1) := by decide +kernel
theorem dX5_crash_83 : decode cX5_crash 83 = .ok (.iastore, 1) := by decide +kernel
theorem dX5_crash_84 : decode cX5_crash 84 = .ok (.iinc 3 1, 3) := by decide +kernel
theorem dX5_crash_87 : decode cX5_crash 87 = .ok (.goto (-41), 3) := by decide +kernel
theorem dX5_crash_90 : decode cX5_crash 90 = .ok (.iload_n 2, 1) := by decide +kernel
theorem dX5_crash_91 : decode cX5_crash 91 = .ok (.ireturn, 1) := by decide +kernel
theorem dX5_isHead_0 : decode cX5_isHead 0 = .ok (.aload_n 0, 1) := by decide +kernel
theorem dX5_isHead_1 : decode cX5_isHead 1 = .ok (.iload_n 1, 1) := by decide +kernel
theorem dX5_isHead_2 : decode cX5_isHead 2 = .ok (.bipush 8, 2) := by decide +kernel
theorem dX5_isHead_4 : decode cX5_isHead 4 = .ok (.iadd, 1) := by decide +kernel
theorem dX5_isHead_5 : decode cX5_isHead 5 = .ok (.bipush 8, 2) := by decide +kernel
theorem dX5_isHead_7 : decode cX5_isHead 7 = .ok (.invokevirtual 137, 3) := by decide +kernel
theorem dX5_isHead_10 : decode cX5_isHead 10 = .ok (.aload_n 0, 1) := by decide +kernel
theorem dX5_isHead_11 : decode cX5_isHead 11 = .ok (.lconst 1, 1) := by decide +kernel
theorem dX5_isHead_12 : decode cX5_isHead 12 = .ok (.iload_n 1, 1) := by decide +kernel
theorem dX5_isHead_13 : decode cX5_isHead 13 = .ok (.bipush 8, 2) := by decide +kernel
theorem dX5_isHead_15 : decode cX5_isHead 15 = .ok (.invokevirtual 126, 3) := by decide +kernel
theorem dX5_isHead_18 : decode cX5_isHead 18 = .ok (.lcmp, 1) := by decide +kernel
theorem dX5_isHead_19 : decode cX5_isHead 19 = .ok (.ifCond .ne 22, 3) := by decide +kernel
theorem dX5_isHead_22 : decode cX5_isHead 22 = .ok (.aload_n 0, 1) := by decide +kernel
theorem dX5_isHead_23 : decode cX5_isHead 23 = .ok (.iload_n 1, 1) := by decide +kernel
theorem dX5_isHead_24 : decode cX5_isHead 24 = .ok (.iconst 4, 1) := by decide +kernel
theorem dX5_isHead_25 : decode cX5_isHead 25 = .ok (.iadd, 1) := by decide +kernel
theorem dX5_isHead_26 : decode cX5_isHead 26 = .ok (.iconst 4, 1) := by decide +kernel
theorem dX5_isHead_27 : decode cX5_isHead 27 = .ok (.invokevirtual 137, 3) := by decide +kernel
theorem dX5_isHead_30 : decode cX5_isHead 30 = .ok (.ldc2_w 188, 3) := by decide +kernel
theorem dX5_isHead_33 : decode cX5_isHead 33 = .ok (.lcmp, 1) := by decide +kernel
theorem dX5_isHead_34 : decode cX5_isHead 34 = .ok (.ifCond .gt 7, 3) := by decide +kernel
theorem dX5_isHead_37 : decode cX5_isHead 37 = .ok (.iconst 1, 1) := by decide +kernel
theorem dX5_isHead_38 : decode cX5_isHead 38 = .ok (.goto 4, 3) := by decide +kernel
theorem dX5_isHead_41 : decode cX5_isHead 41 = .ok (.iconst 0, 1) := by decide +kernel
theorem dX5_isHead_42 : decode cX5_isHead 42 = .ok (.ireturn, 1) := by decide +kernel
theorem dX5_open_0 : decode cX5_open 0 = .ok (.aload_n 0, 1) := by decide +kernel
theorem dX5_open_1 : decode cX5_open 1 = .ok (.iconst 0, 1) := by decide +kernel
theorem dX5_open_2 : decode cX5_open 2 = .ok (.putfield 75, 3) := by decide +kernel
theorem dX5_open_5 : decode cX5_open 5 = .ok (.aload_n 0, 1) := by decide +kernel
theorem dX5_open_6 : decode cX5_open 6 = .ok (.iconst 0, 1) := by decide +kernel
theorem dX5_open_7 : decode cX5_open 7 = .ok (.putfield 94, 3) := by decide +kernel
theorem dX5_open_10 : decode cX5_open 10 = .ok (.aload_n 0, 1) := by decide +kernel
theorem dX5_open_11 : decode cX5_open 11 = .ok (.iconst 0, 1) := by decide +kernel
theorem dX5_open_12 : decode cX5_open 12 = .ok (.invokevirtual 190, 3) := by decide +kernel
theorem dX5_open_15 : decode cX5_open 15 = .ok (.istore_n 1, 1) := by decide +kernel
theorem dX5_open_16 : decode cX5_open 16 = .ok (.aload_n 0, 1) := by decide +kernel
theorem dX5_open_17 : decode cX5_open 17 = .ok (.bipush 16, 2) := by decide +kernel
theorem dX5_open_19 : decode cX5_open 19 = .ok (.invokevirtual 190, 3) := by decide +kernel
theorem dX5_open_22 : decode cX5_open 22 = .ok (.istore_n 2, 1) := by decide +kernel
theorem dX5_open_23 : decode cX5_open 23 = .ok (.iload_n 1, 1) := by decide +kernel
theorem dX5_open_24 : decode cX5_open 24 = .ok (.ifCond .ne 9, 3) := by decide +kernel
theorem dX5_open_27 : decode cX5_open 27 = .ok (.iload_n 2, 1) := by decide +kernel
theorem dX5_open_28 : decode cX5_open 28 = .ok (.ifCond .ne 5, 3) := by decide +kernel
theorem dX5_open_31 : decode cX5_open 31 = .ok (.iconst (-1), 1) := by decide +kernel
theorem dX5_open_32 : decode cX5_open 32 = .ok (.ireturn, 1) := by decide +kernel
theorem dX5_open_33 : decode cX5_open 33 = .ok (.iload_n 2, 1) := by decide +kernel
theorem dX5_open_34 : decode cX5_open 34 = .ok (.ifCond .eq 28, 3) := by decide +kernel
theorem dX5_open_37 : decode cX5_open 37 = .ok (.iload_n 1, 1) := by decide +kernel
theorem dX5_open_38 : decode cX5_open 38 = .ok (.ifCond .eq 20, 3) := by decide +kernel
theorem dX5_open_41 : decode cX5_open 41 = .ok (.aload_n 0, 1) := by decide +kernel
theorem dX5_open_42 : decode cX5_open 42 = .ok (.bipush 16, 2) := by decide +kernel
theorem dX5_open_44 : decode cX5_open 44 = .ok (.iconst 4, 1) := by decide +kernel
theorem dX5_open_45 : decode cX5_open 45 = .ok (.invokevirtual 137, 3) := by decide +kernel
theorem dX5_open_48 : decode cX5_open 48 = .ok (.aload_n 0, 1) := by decide +kernel
theorem dX5_open_49 : decode cX5_open 49 = .ok (.iconst 0, 1) := by decide +kernel
theorem dX5_open_50 : decode cX5_open 50 = .ok (.iconst 4, 1) := by decide +kernel
theorem dX5_open_51 : decode cX5_open 51 = .ok (.invokevirtual 137, 3) := by decide +kernel
theorem dX5_open_54 : decode cX5_open 54 = .ok (.lcmp, 1) := by decide +kernel
theorem dX5_open_55 : decode cX5_open 55 = .ok (.ifCond .le 7, 3) := by decide +kernel
theorem dX5_open_58 : decode cX5_open 58 = .ok (.iconst 1, 1) := by decide +kernel
theorem dX5_open_59 : decode cX5_open 59 = .ok (.goto 4, 3) := by decide +kernel
theorem dX5_open_62 : decode cX5_open 62 = .ok (.iconst 0, 1) := by decide +kernel
theorem dX5_open_63 : decode cX5_open 63 = .ok (.istore_n 3, 1) := by decide +kernel
theorem dX5_open_64 : decode cX5_open 64 = .ok (.iload_n 3, 1) := by decide +kernel
theorem dX5_open_65 : decode cX5_open 65 = .ok (.ifCond .eq 8, 3) := by decide +kernel
theorem dX5_open_68 : decode cX5_open 68 = .ok (.bipush 16, 2) := by decide +kernel
theorem dX5_open_70 : decode cX5_open 70 = .ok (.goto 4, 3) := by decide +kernel
theorem dX5_open_73 : decode cX5_open 73 = .ok (.iconst 0, 1) := by decide +kernel
theorem dX5_open_74 : decode cX5_open 74 = .ok (.istore 4, 2) := by decide +kernel
theorem dX5_open_76 : decode cX5_open 76 = .ok (.aload_n 0, 1) := by decide +kernel
theorem dX5_open_77 : decode cX5_open 77 = .ok (.aload_n 0, 1) := by decide +kernel
theorem dX5_open_78 : decode cX5_open 78 = .ok (.iload 4, 2) := by decide +kernel
theorem dX5_open_80 : decode cX5_open 80 = .ok (.iconst 4, 1) := by decide +kernel
theorem dX5_open_81 : decode cX5_open 81 = .ok (.invokevirtual 137, 3) := by decide +kernel
theorem dX5_open_84 : decode cX5_open 84 = .ok (.l2i, 1) := by decide +kernel
theorem dX5_open_85 : decode cX5_open 85 = .ok (.putfield 88, 3) := by decide +kernel
theorem dX5_open_88 : decode cX5_open 88 = .ok (.aload_n 0, 1) := by decide +kernel
theorem dX5_open_89 : decode cX5_open 89 = .ok (.iload 4, 2) := by decide +kernel
theorem dX5_open_91 : decode cX5_open 91 = .ok (.iconst 4, 1) := by decide +kernel
theorem dX5_open_92 : decode cX5_open 92 = .ok (.iadd, 1) := by decide +kernel
theorem dX5_open_93 : decode cX5_open 93 = .ok (.iconst 4, 1) := by decide +kernel
theorem dX5_open_94 : decode cX5_open 94 = .ok (.invokevirtual 137, 3) := by decide +kernel
theorem dX5_open_97 : decode cX5_open 97 = .ok (.l2i, 1) := by decide +kernel
theorem dX5_open_98 : decode cX5_open 98 = .ok (.istore 5, 2) := by decide +kernel
theorem dX5_open_100 : decode cX5_open 100 = .ok (.aload_n 0, 1) := by decide +kernel
theorem dX5_open_101 : decode cX5_open 101 = .ok (.invokevirtual 82, 3) := by decide +kernel
theorem dX5_open_104 : decode cX5_open 104 = .ok (.aload_n 0, 1) := by decide +kernel
theorem dX5_open_105 : decode cX5_open 105 = .ok (.getfield 98, 3) := by decide +kernel
theorem dX5_open_108 : decode cX5_open 108 = .ok (.iload 5, 2) := by decide +kernel
theorem dX5_open_110 : decode cX5_open 110 = .ok (.if_icmp .ge 58, 3) := by decide +kernel
theorem dX5_open_113 : decode cX5_open 113 = .ok (.aload_n 0, 1) := by decide +kernel
theorem dX5_open_114 : decode cX5_open 114 = .ok (.bipush 32, 2) := by decide +kernel
theorem dX5_open_116 : decode cX5_open 116 = .ok (.aload_n 0, 1) := by decide +kernel
theorem dX5_open_117 : decode cX5_open 117 = .ok (.getfield 98, 3) := by decide +kernel
theorem dX5_open_120 : decode cX5_open 120 = .ok (.iadd, 1) := by decide +kernel
theorem dX5_open_121 : decode cX5_open 121 = .ok (.bipush 32, 2) := by decide +kernel
theorem dX5_open_123 : decode cX5_open 123 = .ok (.iload 5, 2) := by decide +kernel
theorem dX5_open_125 : decode cX5_open 125 = .ok (.iadd, 1) := by decide +kernel
theorem dX5_open_126 : decode cX5_open 126 = .ok (.invokevirtual 193, 3) := by decide +kernel
theorem dX5_open_129 : decode cX5_open 129 = .ok (.ifCond .ne 11, 3) := by decide +kernel
theorem dX5_open_132 : decode cX5_open 132 = .ok (.bipush (-2), 2) := by decide +kernel
theorem dX5_open_134 : decode cX5_open 134 = .ok (.aload_n 0, 1) := by decide +kernel
theorem dX5_open_135 : decode cX5_open 135 = .ok (.getfield 101, 3) := by decide +kernel
theorem dX5_open_138 : decode cX5_open 138 = .ok (.isub, 1) := by decide +kernel
theorem dX5_open_139 : decode cX5_open 139 = .ok (.ireturn, 1) := by decide +kernel
theorem dX5_open_140 : decode cX5_open 140 = .ok (.aload_n 0, 1) := by decide +kernel
theorem dX5_open_141 : decode cX5_open 141 = .ok (.bipush 32, 2) := by decide +kernel
theorem dX5_open_143 : decode cX5_open 143 = .ok (.aload_n 0, 1) := by decide +kernel
theorem dX5_open_144 : decode cX5_open 144 = .ok (.getfield 98, 3) := by decide +kernel
theorem dX5_open_147 : decode cX5_open 147 = .ok (.iadd, 1) := by decide +kernel
theorem dX5_open_148 : decode cX5_open 148 = .ok (.aload_n 0, 1) := by decide +kernel
theorem dX5_open_149 : decode cX5_open 149 = .ok (.getfield 7, 3) := by decide +kernel
theorem dX5_open_152 : decode cX5_open 152 = .ok (.bipush 32, 2) := by decide +kernel
theorem dX5_open_154 : decode cX5_open 154 = .ok (.aload_n 0, 1) := by decide +kernel
theorem dX5_open_155 : decode cX5_open 155 = .ok (.getfield 98, 3) := by decide +kernel
theorem dX5_open_158 : decode cX5_open 158 = .ok (.iadd, 1) := by decide +kernel
theorem dX5_open_159 : decode cX5_open 159 = .ok (.iconst 3, 1) := by decide +kernel
theorem dX5_open_160 : decode cX5_open 160 = .ok (.iadd, 1) := by decide +kernel
theorem dX5_open_161 : decode cX5_open 161 = .ok (.iaload, 1) := by decide +kernel
theorem dX5_open_162 : decode cX5_open 162 = .ok (.invokevirtual 130, 3) := by decide +kernel
theorem dX5_open_165 : decode cX5_open 165 = .ok (.goto (-61), 3) := by decide +kernel
theorem dX5_open_168 : decode cX5_open 168 = .ok (.aload_n 0, 1) := by decide +kernel
theorem dX5_open_169 : decode cX5_open 169 = .ok (.iconst 0, 1) := by decide +kernel
theorem dX5_open_170 : decode cX5_open 170 = .ok (.putfield 85, 3) := by decide +kernel
theorem dX5_open_173 : decode cX5_open 173 = .ok (.aload_n 0, 1) := by decide +kernel
theorem dX5_open_174 : decode cX5_open 174 = .ok (.iconst 1, 1) := by decide +kernel
theorem dX5_open_175 : decode cX5_open 175 = .ok (.putfield 94, 3) := by decide +kernel
theorem dX5_open_178 : decode cX5_open 178 = .ok (.aload_n 0, 1) := by decide +kernel
theorem dX5_open_179 : decode cX5_open 179 = .ok (.invokevirtual 196, 3) := by decide +kernel
theorem dX5_open_182 : decode cX5_open 182 = .ok (.ireturn, 1) := by decide +kernel
theorem dX5_thereMany_0 : decode cX5_thereMany 0 = .ok (.iconst 0, 1) := by decide +kernel
theorem dX5_thereMany_1 : decode cX5_thereMany 1 = .ok (.istore_n 1, 1) := by decide +kernel
theorem dX5_thereMany_2 : decode cX5_thereMany 2 = .ok (.iconst 0, 1) := by decide +kernel
theorem dX5_thereMany_3 : decode cX5_thereMany 3 = .ok (.istore_n 2, 1) := by decide +kernel
theorem dX5_thereMany_4 : decode cX5_thereMany 4 = .ok (.iload_n 2, 1) := by decide +kernel
theorem dX5_thereMany_5 : decode cX5_thereMany 5 = .ok (.aload_n 0, 1) := by decide +kernel
theorem dX5_thereMany_6 : decode cX5_thereMany 6 = .ok (.getfield 110, 3) := by decide +kernel
theorem dX5_thereMany_9 : decode cX5_thereMany 9 = .ok (.if_icmp .ge 26, 3) := by decide +kernel
theorem dX5_thereMany_12 : decode cX5_thereMany 12 = .ok (.iload_n 1, 1) := by decide +kernel
theorem dX5_thereMany_13 : decode cX5_thereMany 13 = .ok (.aload_n 0, 1) := by decide +kernel
theorem dX5_thereMany_14 : decode cX5_thereMany 14 = .ok (.getfield 31, 3) := by decide +kernel
theorem dX5_thereMany_17 : decode cX5_thereMany 17 = .ok (.iload_n 2, 1) := by decide +kernel
theorem dX5_thereMany_18 : decode cX5_thereMany 18 = .ok (.baload, 1) := by decide +kernel
theorem dX5_thereMany_19 : decode cX5_thereMany 19 = .ok (.ifCond .eq 7, 3) := by decide +kernel
theorem dX5_thereMany_22 : decode cX5_thereMany 22 = .ok (.iconst 1, 1) := by decide +kernel
theorem dX5_thereMany_23 : decode cX5_thereMany 23 = .ok (.goto 4, 3) := by decide +kernel
theorem dX5_thereMany_26 : decode cX5_thereMany 26 = .ok (.iconst 0, 1) := by decide +kernel
theorem dX5_thereMany_27 : decode cX5_thereMany 27 = .ok (.iadd, 1) := by decide +kernel
theorem dX5_thereMany_28 : decode cX5_thereMany 28 = .ok (.istore_n 1, 1) := by decide +kernel
theorem dX5_thereMany_29 : decode cX5_thereMany 29 = .ok (.iinc 2 1, 3) := by decide +kernel
theorem dX5_thereMany_32 : decode cX5_thereMany 32 = .ok (.goto (-28), 3) := by decide +kernel
theorem dX5_thereMany_35 : decode cX5_thereMany 35 = .ok (.iload_n 1, 1) := by decide +kernel
theorem dX5_thereMany_36 : decode cX5_thereMany 36 = .ok (.ireturn, 1) := by decide +kernel
theorem dX5_poke_0 : decode cX5_poke 0 = .ok (.aload_n 0, 1) := by decide +kernel
theorem dX5_poke_1 : decode cX5_poke 1 = .ok (.iload_n 1, 1) := by decide +kernel
theorem dX5_poke_2 : decode cX5_poke 2 = .ok (.iconst 0, 1) := by decide +kernel
theorem dX5_poke_3 : decode cX5_poke 3 = .ok (.sipush 24031, 3) := by decide +kernel
theorem dX5_poke_6 : decode cX5_poke 6 = .ok (.invokestatic 133, 3) := by decide +kernel
theorem dX5_poke_9 : decode cX5_poke 9 = .ok (.ifCond .eq 7, 3) := by decide +kernel
theorem dX5_poke_12 : decode cX5_poke 12 = .ok (.iconst 0, 1) := by decide +kernel
theorem dX5_poke_13 : decode cX5_poke 13 = .ok (.goto 4, 3) := by decide +kernel
theorem dX5_poke_16 : decode cX5_poke 16 = .ok (.iconst 1, 1) := by decide +kernel
theorem dX5_poke_17 : decode cX5_poke 17 = .ok (.putfield 75, 3) := by decide +kernel
theorem dX5_poke_20 : decode cX5_poke 20 = .ok (.aload_n 0, 1) := by decide +kernel
theorem dX5_poke_21 : decode cX5_poke 21 = .ok (.getfield 75, 3) := by decide +kernel
theorem dX5_poke_24 : decode cX5_poke 24 = .ok (.ifCond .le 5, 3) := by decide +kernel
theorem dX5_poke_27 : decode cX5_poke 27 = .ok (.iconst 0, 1) := by decide +kernel
theorem dX5_poke_28 : decode cX5_poke 28 = .ok (.ireturn, 1) := by decide +kernel
theorem dX5_poke_29 : decode cX5_poke 29 = .ok (.aload_n 0, 1) := by decide +kernel
theorem dX5_poke_30 : decode cX5_poke 30 = .ok (.getfield 7, 3) := by decide +kernel
theorem dX5_poke_33 : decode cX5_poke 33 = .ok (.iload_n 1, 1) := by decide +kernel
theorem dX5_poke_34 : decode cX5_poke 34 = .ok (.iaload, 1) := by decide +kernel
theorem dX5_poke_35 : decode cX5_poke 35 = .ok (.istore_n 3, 1) := by decide +kernel
theorem dX5_poke_36 : decode cX5_poke 36 = .ok (.aload_n 0, 1) := by decide +kernel
theorem dX5_poke_37 : decode cX5_poke 37 = .ok (.getfield 7, 3) := by decide +kernel
theorem dX5_poke_40 : decode cX5_poke 40 = .ok (.iload_n 1, 1) := by decide +kernel
theorem dX5_poke_41 : decode cX5_poke 41 = .ok (.iload_n 3, 1) := by decide +kernel
theorem dX5_poke_42 : decode cX5_poke 42 = .ok (.iload_n 2, 1) := by decide +kernel
theorem dX5_poke_43 : decode cX5_poke 43 = .ok (.sipush 255, 3) := by decide +kernel
theorem dX5_poke_46 : decode cX5_poke 46 = .ok (.iand, 1) := by decide +kernel
theorem dX5_poke_47 : decode cX5_poke 47 = .ok (.ixor, 1) := by decide +kernel
theorem dX5_poke_48 : decode cX5_poke 48 = .ok (.iastore, 1) := by decide +kernel
theorem dX5_poke_49 : decode cX5_poke 49 = .ok (.iload_n 3, 1) := by decide +kernel
theorem dX5_poke_50 : decode cX5_poke 50 = .ok (.ireturn, 1) := by decide +kernel
theorem dX5_byteAt_0 : decode cX5_byteAt 0 = .ok (.aload_n 0, 1) := by decide +kernel
theorem dX5_byteAt_1 : decode cX5_byteAt 1 = .ok (.iload_n 1, 1) := by decide +kernel
theorem dX5_byteAt_2 : decode cX5_byteAt 2 = .ok (.iconst 0, 1) := by decide +kernel
theorem dX5_byteAt_3 : decode cX5_byteAt 3 = .ok (.sipush 24031, 3) := by decide +kernel
theorem dX5_byteAt_6 : decode cX5_byteAt 6 = .ok (.invokestatic 133, 3) := by decide +kernel
theorem dX5_byteAt_9 : decode cX5_byteAt 9 = .ok (.ifCond .eq 7, 3) := by decide +kernel
theorem dX5_byteAt_12 : decode cX5_byteAt 12 = .ok (.iconst 0, 1) := by decide +kernel
theorem dX5_byteAt_13 : decode cX5_byteAt 13 = .ok (.goto 4, 3) := by decide +kernel
theorem dX5_byteAt_16 : decode cX5_byteAt 16 = .ok (.iconst 1, 1) := by decide +kernel
theorem dX5_byteAt_17 : decode cX5_byteAt 17 = .ok (.putfield 75, 3) := by decide +kernel
theorem dX5_byteAt_20 : decode cX5_byteAt 20 = .ok (.aload_n 0, 1) := by decide +kernel
theorem dX5_byteAt_21 : decode cX5_byteAt 21 = .ok (.getfield 75, 3) := by decide +kernel
theorem dX5_byteAt_24 : decode cX5_byteAt 24 = .ok (.ifCond .le 7, 3) := by decide +kernel
theorem dX5_byteAt_27 : decode cX5_byteAt 27 = .ok (.iconst 0, 1) := by decide +kernel
theorem dX5_byteAt_28 : decode cX5_byteAt 28 = .ok (.goto 9, 3) := by decide +kernel
theorem dX5_byteAt_31 : decode cX5_byteAt 31 = .ok (.aload_n 0, 1) := by decide +kernel
theorem dX5_byteAt_32 : decode cX5_byteAt 32 = .ok (.getfield 7, 3) := by decide +kernel
theorem dX5_byteAt_35 : decode cX5_byteAt 35 = .ok (.iload_n 1, 1) := by decide +kernel
theorem dX5_byteAt_36 : decode cX5_byteAt 36 = .ok (.iaload, 1) := by decide +kernel
theorem dX5_byteAt_37 : decode cX5_byteAt 37 = .ok (.ireturn, 1) := by decide +kernel
theorem dX5_keepBeside_0 : decode cX5_keepBeside 0 = .ok (.iconst 0, 1) := by decide +kernel
theorem dX5_keepBeside_1 : decode cX5_keepBeside 1 = .ok (.istore_n 2, 1) := by decide +kernel
theorem dX5_keepBeside_2 : decode cX5_keepBeside 2 = .ok (.iload_n 2, 1) := by decide +kernel
theorem dX5_keepBeside_3 : decode cX5_keepBeside 3 = .ok (.bipush 64, 2) := by decide +kernel
theorem dX5_keepBeside_5 : decode cX5_keepBeside 5 = .ok (.if_icmp .ge 40, 3) := by decide +kernel
theorem dX5_keepBeside_8 : decode cX5_keepBeside 8 = .ok (.iload_n 1, 1) := by decide +kernel
theorem dX5_keepBeside_9 : decode cX5_keepBeside 9 = .ok (.ifCond .eq 18, 3) := by decide +kernel
theorem dX5_keepBeside_12 : decode cX5_keepBeside 12 = .ok (.aload_n 0, 1) := by decide +kernel
theorem dX5_keepBeside_13 : decode cX5_keepBeside 13 = .ok (.getfield 20, 3) := by decide +kernel
theorem dX5_keepBeside_16 : decode cX5_keepBeside 16 = .ok (.iload_n 2, 1) := by decide +kernel
theorem dX5_keepBeside_17 : decode cX5_keepBeside 17 = .ok (.aload_n 0, 1) := by decide +kernel
theorem dX5_keepBeside_18 : decode cX5_keepBeside 18 = .ok (.getfield 50, 3) := by decide +kernel
theorem dX5_keepBeside_21 : decode cX5_keepBeside 21 = .ok (.iload_n 2, 1) := by decide +kernel
theorem dX5_keepBeside_22 : decode cX5_keepBeside 22 = .ok (.laload, 1) := by decide +kernel
theorem dX5_keepBeside_23 : decode cX5_keepBeside 23 = .ok (.lastore, 1) := by decide +kernel
theorem dX5_keepBeside_24 : decode cX5_keepBeside 24 = .ok (.goto 15, 3) := by decide +kernel
theorem dX5_keepBeside_27 : decode cX5_keepBeside 27 = .ok (.aload_n 0, 1) := by decide +kernel
theorem dX5_keepBeside_28 : decode cX5_keepBeside 28 = .ok (.getfield 50, 3) := by decide +kernel
theorem dX5_keepBeside_31 : decode cX5_keepBeside 31 = .ok (.iload_n 2, 1) := by decide +kernel
theorem dX5_keepBeside_32 : decode cX5_keepBeside 32 = .ok (.aload_n 0, 1) := by decide +kernel
theorem dX5_keepBeside_33 : decode cX5_keepBeside 33 = .ok (.getfield 20, 3) := by decide +kernel
theorem dX5_keepBeside_36 : decode cX5_keepBeside 36 = .ok (.iload_n 2, 1) := by decide +kernel
theorem dX5_keepBeside_37 : decode cX5_keepBeside 37 = .ok (.laload, 1) := by decide +kernel
theorem dX5_keepBeside_38 : decode cX5_keepBeside 38 = .ok (.lastore, 1) := by decide +kernel
theorem dX5_keepBeside_39 : decode cX5_keepBeside 39 = .ok (.iinc 2 1, 3) := by decide +kernel
theorem dX5_keepBeside_42 : decode cX5_keepBeside 42 = .ok (.goto (-40), 3) := by decide +kernel
theorem dX5_keepBeside_45 : decode cX5_keepBeside 45 = .ok (.iconst 0, 1) := by decide +kernel
theorem dX5_keepBeside_46 : decode cX5_keepBeside 46 = .ok (.istore_n 2, 1) := by decide +kernel
theorem dX5_keepBeside_47 : decode cX5_keepBeside 47 = .ok (.iload_n 2, 1) := by decide +kernel
theorem dX5_keepBeside_48 : decode cX5_keepBeside 48 = .ok (.ldc 24, 2) := by decide +kernel
theorem dX5_keepBeside_50 : decode cX5_keepBeside 50 = .ok (.if_icmp .ge 40, 3) := by decide +kernel
theorem dX5_keepBeside_53 : decode cX5_keepBeside 53 = .ok (.iload_n 1, 1) := by decide +kernel
theorem dX5_keepBeside_54 : decode cX5_keepBeside 54 = .ok (.ifCond .eq 18, 3) := by decide +kernel
theorem dX5_keepBeside_57 : decode cX5_keepBeside 57 = .ok (.aload_n 0, 1) := by decide +kernel
theorem dX5_keepBeside_58 : decode cX5_keepBeside 58 = .ok (.getfield 25, 3) := by decide +kernel
theorem dX5_keepBeside_61 : decode cX5_keepBeside 61 = .ok (.iload_n 2, 1) := by decide +kernel
theorem dX5_keepBeside_62 : decode cX5_keepBeside 62 = .ok (.aload_n 0, 1) := by decide +kernel
theorem dX5_keepBeside_63 : decode cX5_keepBeside 63 = .ok (.getfield 53, 3) := by decide +kernel
theorem dX5_keepBeside_66 : decode cX5_keepBeside 66 = .ok (.iload_n 2, 1) := by decide +kernel
theorem dX5_keepBeside_67 : decode cX5_keepBeside 67 = .ok (.iaload, 1) := by decide +kernel
theorem dX5_keepBeside_68 : decode cX5_keepBeside 68 = .ok (.iastore, 1) := by decide +kernel
theorem dX5_keepBeside_69 : decode cX5_keepBeside 69 = .ok (.goto 15, 3) := by decide +kernel
theorem dX5_keepBeside_72 : decode cX5_keepBeside 72 = .ok (.aload_n 0, 1) := by decide +kernel
theorem dX5_keepBeside_73 : decode cX5_keepBeside 73 = .ok (.getfield 53, 3) := by decide +kernel
theorem dX5_keepBeside_76 : decode cX5_keepBeside 76 = .ok (.iload_n 2, 1) := by decide +kernel
theorem dX5_keepBeside_77 : decode cX5_keepBeside 77 = .ok (.aload_n 0, 1) := by decide +kernel
theorem dX5_keepBeside_78 : decode cX5_keepBeside 78 = .ok (.getfield 25, 3) := by decide +kernel
theorem dX5_keepBeside_81 : decode cX5_keepBeside 81 = .ok (.iload_n 2, 1) := by decide +kernel
theorem dX5_keepBeside_82 : decode cX5_keepBeside 82 = .ok (.iaload, 1) := by decide +kernel
theorem dX5_keepBeside_83 : decode cX5_keepBeside 83 = .ok (.iastore, 1) := by decide +kernel
theorem dX5_keepBeside_84 : decode cX5_keepBeside 84 = .ok (.iinc 2 1, 3) := by decide +kernel
theorem dX5_keepBeside_87 : decode cX5_keepBeside 87 = .ok (.goto (-40), 3) := by decide +kernel
theorem dX5_keepBeside_90 : decode cX5_keepBeside 90 = .ok (.iconst 0, 1) := by decide +kernel
theorem dX5_keepBeside_91 : decode cX5_keepBeside 91 = .ok (.istore_n 2, 1) := by decide +kernel
theorem dX5_keepBeside_92 : decode cX5_keepBeside 92 = .ok (.iload_n 2, 1) := by decide +kernel
theorem dX5_keepBeside_93 : decode cX5_keepBeside 93 = .ok (.sipush 2560, 3) := by decide +kernel
theorem dX5_keepBeside_96 : decode cX5_keepBeside 96 = .ok (.if_icmp .ge 40, 3) := by decide +kernel
theorem dX5_keepBeside_99 : decode cX5_keepBeside 99 = .ok (.iload_n 1, 1) := by decide +kernel
theorem dX5_keepBeside_100 : decode cX5_keepBeside 100 = .ok (.ifCond .eq 18, 3) := by decide +kernel
theorem dX5_keepBeside_103 : decode cX5_keepBeside 103 = .ok (.aload_n 0, 1) := by decide +kernel
theorem dX5_keepBeside_104 : decode cX5_keepBeside 104 = .ok (.getfield 28, 3) := by decide +kernel
theorem dX5_keepBeside_107 : decode cX5_keepBeside 107 = .ok (.iload_n 2, 1) := by decide +kernel
theorem dX5_keepBeside_108 : decode cX5_keepBeside 108 = .ok (.aload_n 0, 1) := by decide +kernel
theorem dX5_keepBeside_109 : decode cX5_keepBeside 109 = .ok (.getfield 56, 3) := by decide +kernel
theorem dX5_keepBeside_112 : decode cX5_keepBeside 112 = .ok (.iload_n 2, 1) := by decide +kernel
theorem dX5_keepBeside_113 : decode cX5_keepBeside 113 = .ok (.laload, 1) := by decide +kernel
theorem dX5_keepBeside_114 : decode cX5_keepBeside 114 = .ok (.lastore, 1) := by decide +kernel
theorem dX5_keepBeside_115 : decode cX5_keepBeside 115 = .ok (.goto 15, 3) := by decide +kernel
theorem dX5_keepBeside_118 : decode cX5_keepBeside 118 = .ok (.aload_n 0, 1) := by decide +kernel
theorem dX5_keepBeside_119 : decode cX5_keepBeside 119 = .ok (.getfield 56, 3) := by decide +kernel
theorem dX5_keepBeside_122 : decode cX5_keepBeside 122 = .ok (.iload_n 2, 1) := by decide +kernel
theorem dX5_keepBeside_123 : decode cX5_keepBeside 123 = .ok (.aload_n 0, 1) := by decide +kernel
theorem dX5_keepBeside_124 : decode cX5_keepBeside 124 = .ok (.getfield 28, 3) := by decide +kernel
theorem dX5_keepBeside_127 : decode cX5_keepBeside 127 = .ok (.iload_n 2, 1) := by decide +kernel
theorem dX5_keepBeside_128 : decode cX5_keepBeside 128 = .ok (.laload, 1) := by decide +kernel
theorem dX5_keepBeside_129 : decode cX5_keepBeside 129 = .ok (.lastore, 1) := by decide +kernel
theorem dX5_keepBeside_130 : decode cX5_keepBeside 130 = .ok (.iinc 2 1, 3) := by decide +kernel
theorem dX5_keepBeside_133 : decode cX5_keepBeside 133 = .ok (.goto (-41), 3) := by decide +kernel
theorem dX5_keepBeside_136 : decode cX5_keepBeside 136 = .ok (.iconst 0, 1) := by decide +kernel
theorem dX5_keepBeside_137 : decode cX5_keepBeside 137 = .ok (.istore_n 2, 1) := by decide +kernel
theorem dX5_keepBeside_138 : decode cX5_keepBeside 138 = .ok (.iload_n 2, 1) := by decide +kernel
theorem dX5_keepBeside_139 : decode cX5_keepBeside 139 = .ok (.sipush 800, 3) := by decide +kernel
theorem dX5_keepBeside_142 : decode cX5_keepBeside 142 = .ok (.if_icmp .ge 40, 3) := by decide +kernel
theorem dX5_keepBeside_145 : decode cX5_keepBeside 145 = .ok (.iload_n 1, 1) := by decide +kernel
theorem dX5_keepBeside_146 : decode cX5_keepBeside 146 = .ok (.ifCond .eq 18, 3) := by decide +kernel
theorem dX5_keepBeside_149 : decode cX5_keepBeside 149 = .ok (.aload_n 0, 1) := by decide +kernel
theorem dX5_keepBeside_150 : decode cX5_keepBeside 150 = .ok (.getfield 35, 3) := by decide +kernel
theorem dX5_keepBeside_153 : decode cX5_keepBeside 153 = .ok (.iload_n 2, 1) := by decide +kernel
theorem dX5_keepBeside_154 : decode cX5_keepBeside 154 = .ok (.aload_n 0, 1) := by decide +kernel
theorem dX5_keepBeside_155 : decode cX5_keepBeside 155 = .ok (.getfield 62, 3) := by decide +kernel
theorem dX5_keepBeside_158 : decode cX5_keepBeside 158 = .ok (.iload_n 2, 1) := by decide +kernel
theorem dX5_keepBeside_159 : decode cX5_keepBeside 159 = .ok (.iaload, 1) := by decide +kernel
theorem dX5_keepBeside_160 : decode cX5_keepBeside 160 = .ok (.iastore, 1) := by decide +kernel
theorem dX5_keepBeside_161 : decode cX5_keepBeside 161 = .ok (.goto 15, 3) := by decide +kernel
theorem dX5_keepBeside_164 : decode cX5_keepBeside 164 = .ok (.aload_n 0, 1) := by decide +kernel
theorem dX5_keepBeside_165 : decode cX5_keepBeside 165 = .ok (.getfield 62, 3) := by decide +kernel
theorem dX5_keepBeside_168 : decode cX5_keepBeside 168 = .ok (.iload_n 2, 1) := by decide +kernel
theorem dX5_keepBeside_169 : decode cX5_keepBeside 169 = .ok (.aload_n 0, 1) := by decide +kernel
theorem dX5_keepBeside_170 : decode cX5_keepBeside 170 = .ok (.getfield 35, 3) := by decide +kernel
theorem dX5_keepBeside_173 : decode cX5_keepBeside 173 = .ok (.iload_n 2, 1) := by decide +kernel
theorem dX5_keepBeside_174 : decode cX5_keepBeside 174 = .ok (.iaload, 1) := by decide +kernel
theorem dX5_keepBeside_175 : decode cX5_keepBeside 175 = .ok (.iastore, 1) := by decide +kernel
theorem dX5_keepBeside_176 : decode cX5_keepBeside 176 = .ok (.iinc 2 1, 3) := by decide +kernel
theorem dX5_keepBeside_179 : decode cX5_keepBeside 179 = .ok (.goto (-41), 3) := by decide +kernel
theorem dX5_keepBeside_182 : decode cX5_keepBeside 182 = .ok (.iconst 0, 1) := by decide +kernel
theorem dX5_keepBeside_183 : decode cX5_keepBeside 183 = .ok (.istore_n 2, 1) := by decide +kernel
theorem dX5_keepBeside_184 : decode cX5_keepBeside 184 = .ok (.iload_n 2, 1) := by decide +kernel
theorem dX5_keepBeside_185 : decode cX5_keepBeside 185 = .ok (.bipush 100, 2) := by decide +kernel
theorem dX5_keepBeside_187 : decode cX5_keepBeside 187 = .ok (.if_icmp .ge 88, 3) := by decide +kernel
theorem dX5_keepBeside_190 : decode cX5_keepBeside 190 = .ok (.iload_n 1, 1) := by decide +kernel
theorem dX5_keepBeside_191 : decode cX5_keepBeside 191 = .ok (.ifCond .eq 42, 3) := by decide +kernel
theorem dX5_keepBeside_194 : decode cX5_keepBeside 194 = .ok (.aload_n 0, 1) := by decide +kernel
theorem dX5_keepBeside_195 : decode cX5_keepBeside 195 = .ok (.getfield 31, 3) := by decide +kernel
theorem dX5_keepBeside_198 : decode cX5_keepBeside 198 = .ok (.iload_n 2, 1) := by decide +kernel
theorem dX5_keepBeside_199 : decode cX5_keepBeside 199 = .ok (.aload_n 0, 1) := by decide +kernel
theorem dX5_keepBeside_200 : decode cX5_keepBeside 200 = .ok (.getfield 59, 3) := by decide +kernel
theorem dX5_keepBeside_203 : decode cX5_keepBeside 203 = .ok (.iload_n 2, 1) := by decide +kernel
theorem dX5_keepBeside_204 : decode cX5_keepBeside 204 = .ok (.baload, 1) := by decide +kernel
theorem dX5_keepBeside_205 : decode cX5_keepBeside 205 = .ok (.bastore, 1) := by decide +kernel
theorem dX5_keepBeside_206 : decode cX5_keepBeside 206 = .ok (.aload_n 0, 1) := by decide +kernel
theorem dX5_keepBeside_207 : decode cX5_keepBeside 207 = .ok (.getfield 38, 3) := by decide +kernel
theorem dX5_keepBeside_210 : decode cX5_keepBeside 210 = .ok (.iload_n 2, 1) := by decide +kernel
theorem dX5_keepBeside_211 : decode cX5_keepBeside 211 = .ok (.aload_n 0, 1) := by decide +kernel
theorem dX5_keepBeside_212 : decode cX5_keepBeside 212 = .ok (.getfield 65, 3) := by decide +kernel
theorem dX5_keepBeside_215 : decode cX5_keepBeside 215 = .ok (.iload_n 2, 1) := by decide +kernel
theorem dX5_keepBeside_216 : decode cX5_keepBeside 216 = .ok (.iaload, 1) := by decide +kernel
theorem dX5_keepBeside_217 : decode cX5_keepBeside 217 = .ok (.iastore, 1) := by decide +kernel
theorem dX5_keepBeside_218 : decode cX5_keepBeside 218 = .ok (.aload_n 0, 1) := by decide +kernel
theorem dX5_keepBeside_219 : decode cX5_keepBeside 219 = .ok (.getfield 41, 3) := by decide +kernel
theorem dX5_keepBeside_222 : decode cX5_keepBeside 222 = .ok (.iload_n 2, 1) := by decide +kernel
theorem dX5_keepBeside_223 : decode cX5_keepBeside 223 = .ok (.aload_n 0, 1) := by decide +kernel
theorem dX5_keepBeside_224 : decode cX5_keepBeside 224 = .ok (.getfield 68, 3) := by decide +kernel
theorem dX5_keepBeside_227 : decode cX5_keepBeside 227 = .ok (.iload_n 2, 1) := by decide +kernel
theorem dX5_keepBeside_228 : decode cX5_keepBeside 228 = .ok (.laload, 1) := by decide +kernel
theorem dX5_keepBeside_229 : decode cX5_keepBeside 229 = .ok (.lastore, 1) := by decide +kernel
theorem dX5_keepBeside_230 : decode cX5_keepBeside 230 = .ok (.goto 39, 3) := by decide +kernel
theorem dX5_keepBeside_233 : decode cX5_keepBeside 233 = .ok (.aload_n 0, 1) := by decide +kernel
theorem dX5_keepBeside_234 : decode cX5_keepBeside 234 = .ok (.getfield 59, 3) := by decide +kernel
theorem dX5_keepBeside_237 : decode cX5_keepBeside 237 = .ok (.iload_n 2, 1) := by decide +kernel
theorem dX5_keepBeside_238 : decode cX5_keepBeside 238 = .ok (.aload_n 0, 1) := by decide +kernel
theorem dX5_keepBeside_239 : decode cX5_keepBeside 239 = .ok (.getfield 31, 3) := by decide +kernel
theorem dX5_keepBeside_242 : decode cX5_keepBeside 242 = .ok (.iload_n 2, 1) := by decide +kernel
theorem dX5_keepBeside_243 : decode cX5_keepBeside 243 = .ok (.baload, 1) := by decide +kernel
theorem dX5_keepBeside_244 : decode cX5_keepBeside 244 = .ok (.bastore, 1) := by decide +kernel
theorem dX5_keepBeside_245 : decode cX5_keepBeside 245 = .ok (.aload_n 0, 1) := by decide +kernel
theorem dX5_keepBeside_246 : decode cX5_keepBeside 246 = .ok (.getfield 65, 3) := by decide +kernel
theorem dX5_keepBeside_249 : decode cX5_keepBeside 249 = .ok (.iload_n 2, 1) := by decide +kernel
theorem dX5_keepBeside_250 : decode cX5_keepBeside 250 = .ok (.aload_n 0, 1) := by decide +kernel
theorem dX5_keepBeside_251 : decode cX5_keepBeside 251 = .ok (.getfield 38, 3) := by decide +kernel
theorem dX5_keepBeside_254 : decode cX5_keepBeside 254 = .ok (.iload_n 2, 1) := by decide +kernel
theorem dX5_keepBeside_255 : decode cX5_keepBeside 255 = .ok (.iaload, 1) := by decide +kernel
theorem dX5_keepBeside_256 : decode cX5_keepBeside 256 = .ok (.iastore, 1) := by decide +kernel
theorem dX5_keepBeside_257 : decode cX5_keepBeside 257 = .ok (.aload_n 0, 1) := by decide +kernel
theorem dX5_keepBeside_258 : decode cX5_keepBeside 258 = .ok (.getfield 68, 3) := by decide +kernel
theorem dX5_keepBeside_261 : decode cX5_keepBeside 261 = .ok (.iload_n 2, 1) := by decide +kernel
theorem dX5_keepBeside_262 : decode cX5_keepBeside 262 = .ok (.aload_n 0, 1) := by decide +kernel
theorem dX5_keepBeside_263 : decode cX5_keepBeside 263 = .ok (.getfield 41, 3) := by decide +kernel
theorem dX5_keepBeside_266 : decode cX5_keepBeside 266 = .ok (.iload_n 2, 1) := by decide +kernel
theorem dX5_keepBeside_267 : decode cX5_keepBeside 267 = .ok (.laload, 1) := by decide +kernel
theorem dX5_keepBeside_268 : decode cX5_keepBeside 268 = .ok (.lastore, 1) := by decide +kernel
theorem dX5_keepBeside_269 : decode cX5_keepBeside 269 = .ok (.iinc 2 1, 3) := by decide +kernel
theorem dX5_keepBeside_272 : decode cX5_keepBeside 272 = .ok (.goto (-88), 3) := by decide +kernel
theorem dX5_keepBeside_275 : decode cX5_keepBeside 275 = .ok (.return_, 1) := by decide +kernel
theorem dX5_badAt_0 : decode cX5_badAt 0 = .ok (.aload_n 0, 1) := by decide +kernel
theorem dX5_badAt_1 : decode cX5_badAt 1 = .ok (.aload_n 0, 1) := by decide +kernel
theorem dX5_badAt_2 : decode cX5_badAt 2 = .ok (.getfield 94, 3) := by decide +kernel
theorem dX5_badAt_5 : decode cX5_badAt 5 = .ok (.ifCond .eq 7, 3) := by decide +kernel
theorem dX5_badAt_8 : decode cX5_badAt 8 = .ok (.iconst 0, 1) := by decide +kernel
theorem dX5_badAt_9 : decode cX5_badAt 9 = .ok (.goto 4, 3) := by decide +kernel
theorem dX5_badAt_12 : decode cX5_badAt 12 = .ok (.iconst 1, 1) := by decide +kernel
theorem dX5_badAt_13 : decode cX5_badAt 13 = .ok (.putfield 75, 3) := by decide +kernel
theorem dX5_badAt_16 : decode cX5_badAt 16 = .ok (.aload_n 0, 1) := by decide +kernel
theorem dX5_badAt_17 : decode cX5_badAt 17 = .ok (.getfield 75, 3) := by decide +kernel
theorem dX5_badAt_20 : decode cX5_badAt 20 = .ok (.ifCond .le 5, 3) := by decide +kernel
theorem dX5_badAt_23 : decode cX5_badAt 23 = .ok (.iconst 0, 1) := by decide +kernel
theorem dX5_badAt_24 : decode cX5_badAt 24 = .ok (.ireturn, 1) := by decide +kernel
theorem dX5_badAt_25 : decode cX5_badAt 25 = .ok (.aload_n 0, 1) := by decide +kernel
theorem dX5_badAt_26 : decode cX5_badAt 26 = .ok (.iconst 0, 1) := by decide +kernel
theorem dX5_badAt_27 : decode cX5_badAt 27 = .ok (.invokevirtual 199, 3) := by decide +kernel
theorem dX5_badAt_30 : decode cX5_badAt 30 = .ok (.aload_n 0, 1) := by decide +kernel
theorem dX5_badAt_31 : decode cX5_badAt 31 = .ok (.getfield 98, 3) := by decide +kernel
theorem dX5_badAt_34 : decode cX5_badAt 34 = .ok (.istore_n 1, 1) := by decide +kernel
theorem dX5_badAt_35 : decode cX5_badAt 35 = .ok (.aload_n 0, 1) := by decide +kernel
theorem dX5_badAt_36 : decode cX5_badAt 36 = .ok (.getfield 101, 3) := by decide +kernel
theorem dX5_badAt_39 : decode cX5_badAt 39 = .ok (.istore_n 2, 1) := by decide +kernel
theorem dX5_badAt_40 : decode cX5_badAt 40 = .ok (.aload_n 0, 1) := by decide +kernel
theorem dX5_badAt_41 : decode cX5_badAt 41 = .ok (.getfield 104, 3) := by decide +kernel
theorem dX5_badAt_44 : decode cX5_badAt 44 = .ok (.istore_n 3, 1) := by decide +kernel
theorem dX5_badAt_45 : decode cX5_badAt 45 = .ok (.aload_n 0, 1) := by decide +kernel
theorem dX5_badAt_46 : decode cX5_badAt 46 = .ok (.getfield 107, 3) := by decide +kernel
theorem dX5_badAt_49 : decode cX5_badAt 49 = .ok (.istore 4, 2) := by decide +kernel
theorem dX5_badAt_51 : decode cX5_badAt 51 = .ok (.aload_n 0, 1) := by decide +kernel
theorem dX5_badAt_52 : decode cX5_badAt 52 = .ok (.getfield 110, 3) := by decide +kernel
theorem dX5_badAt_55 : decode cX5_badAt 55 = .ok (.istore 5, 2) := by decide +kernel
theorem dX5_badAt_57 : decode cX5_badAt 57 = .ok (.aload_n 0, 1) := by decide +kernel
theorem dX5_badAt_58 : decode cX5_badAt 58 = .ok (.getfield 113, 3) := by decide +kernel
theorem dX5_badAt_61 : decode cX5_badAt 61 = .ok (.istore 6, 2) := by decide +kernel
theorem dX5_badAt_63 : decode cX5_badAt 63 = .ok (.aload_n 0, 1) := by decide +kernel
theorem dX5_badAt_64 : decode cX5_badAt 64 = .ok (.invokevirtual 82, 3) := by decide +kernel
theorem dX5_badAt_67 : decode cX5_badAt 67 = .ok (.iconst (-1), 1) := by decide +kernel
theorem dX5_badAt_68 : decode cX5_badAt 68 = .ok (.istore 7, 2) := by decide +kernel
theorem dX5_badAt_70 : decode cX5_badAt 70 = .ok (.aload_n 0, 1) := by decide +kernel
theorem dX5_badAt_71 : decode cX5_badAt 71 = .ok (.getfield 98, 3) := by decide +kernel
theorem dX5_badAt_74 : decode cX5_badAt 74 = .ok (.iload_n 1, 1) := by decide +kernel
theorem dX5_badAt_75 : decode cX5_badAt 75 = .ok (.if_icmp .ge 64, 3) := by decide +kernel
theorem dX5_badAt_78 : decode cX5_badAt 78 = .ok (.iload 7, 2) := by decide +kernel
theorem dX5_badAt_80 : decode cX5_badAt 80 = .ok (.iconst (-1), 1) := by decide +kernel
theorem dX5_badAt_81 : decode cX5_badAt 81 = .ok (.if_icmp .ne 58, 3) := by decide +kernel
theorem dX5_badAt_84 : decode cX5_badAt 84 = .ok (.aload_n 0, 1) := by decide +kernel
theorem dX5_badAt_85 : decode cX5_badAt 85 = .ok (.bipush 32, 2) := by decide +kernel
theorem dX5_badAt_87 : decode cX5_badAt 87 = .ok (.aload_n 0, 1) := by decide +kernel
theorem dX5_badAt_88 : decode cX5_badAt 88 = .ok (.getfield 98, 3) := by decide +kernel
theorem dX5_badAt_91 : decode cX5_badAt 91 = .ok (.iadd, 1) := by decide +kernel
theorem dX5_badAt_92 : decode cX5_badAt 92 = .ok (.bipush 32, 2) := by decide +kernel
theorem dX5_badAt_94 : decode cX5_badAt 94 = .ok (.iload_n 1, 1) := by decide +kernel
theorem dX5_badAt_95 : decode cX5_badAt 95 = .ok (.iadd, 1) := by decide +kernel
theorem dX5_badAt_96 : decode cX5_badAt 96 = .ok (.invokevirtual 193, 3) := by decide +kernel
theorem dX5_badAt_99 : decode cX5_badAt 99 = .ok (.ifCond .ne 12, 3) := by decide +kernel
theorem dX5_badAt_102 : decode cX5_badAt 102 = .ok (.aload_n 0, 1) := by decide +kernel
theorem dX5_badAt_103 : decode cX5_badAt 103 = .ok (.getfield 101, 3) := by decide +kernel
theorem dX5_badAt_106 : decode cX5_badAt 106 = .ok (.istore 7, 2) := by decide +kernel
theorem dX5_badAt_108 : decode cX5_badAt 108 = .ok (.goto (-38), 3) := by decide +kernel
theorem dX5_badAt_111 : decode cX5_badAt 111 = .ok (.aload_n 0, 1) := by decide +kernel
theorem dX5_badAt_112 : decode cX5_badAt 112 = .ok (.bipush 32, 2) := by decide +kernel
theorem dX5_badAt_114 : decode cX5_badAt 114 = .ok (.aload_n 0, 1) := by decide +kernel
theorem dX5_badAt_115 : decode cX5_badAt 115 = .ok (.getfield 98, 3) := by decide +kernel
theorem dX5_badAt_118 : decode cX5_badAt 118 = .ok (.iadd, 1) := by decide +kernel
theorem dX5_badAt_119 : decode cX5_badAt 119 = .ok (.aload_n 0, 1) := by decide +kernel
theorem dX5_badAt_120 : decode cX5_badAt 120 = .ok (.getfield 7, 3) := by decide +kernel
theorem dX5_badAt_123 : decode cX5_badAt 123 = .ok (.bipush 32, 2) := by decide +kernel
theorem dX5_badAt_125 : decode cX5_badAt 125 = .ok (.aload_n 0, 1) := by decide +kernel
theorem dX5_badAt_126 : decode cX5_badAt 126 = .ok (.getfield 98, 3) := by decide +kernel
theorem dX5_badAt_129 : decode cX5_badAt 129 = .ok (.iadd, 1) := by decide +kernel
theorem dX5_badAt_130 : decode cX5_badAt 130 = .ok (.iconst 3, 1) := by decide +kernel
theorem dX5_badAt_131 : decode cX5_badAt 131 = .ok (.iadd, 1) := by decide +kernel
theorem dX5_badAt_132 : decode cX5_badAt 132 = .ok (.iaload, 1) := by decide +kernel
theorem dX5_badAt_133 : decode cX5_badAt 133 = .ok (.invokevirtual 130, 3) := by decide +kernel
theorem dX5_badAt_136 : decode cX5_badAt 136 = .ok (.goto (-66), 3) := by decide +kernel
theorem dX5_badAt_139 : decode cX5_badAt 139 = .ok (.aload_n 0, 1) := by decide +kernel
theorem dX5_badAt_140 : decode cX5_badAt 140 = .ok (.iload_n 1, 1) := by decide +kernel
theorem dX5_badAt_141 : decode cX5_badAt 141 = .ok (.putfield 98, 3) := by decide +kernel
theorem dX5_badAt_144 : decode cX5_badAt 144 = .ok (.aload_n 0, 1) := by decide +kernel
theorem dX5_badAt_145 : decode cX5_badAt 145 = .ok (.iload_n 2, 1) := by decide +kernel
theorem dX5_badAt_146 : decode cX5_badAt 146 = .ok (.putfield 101, 3) := by decide +kernel
theorem dX5_badAt_149 : decode cX5_badAt 149 = .ok (.aload_n 0, 1) := by decide +kernel
theorem dX5_badAt_150 : decode cX5_badAt 150 = .ok (.iload_n 3, 1) := by decide +kernel
theorem dX5_badAt_151 : decode cX5_badAt 151 = .ok (.putfield 104, 3) := by decide +kernel
theorem dX5_badAt_154 : decode cX5_badAt 154 = .ok (.aload_n 0, 1) := by decide +kernel
theorem dX5_badAt_155 : decode cX5_badAt 155 = .ok (.iload 4, 2) := by decide +kernel
theorem dX5_badAt_157 : decode cX5_badAt 157 = .ok (.putfield 107, 3) := by decide +kernel
theorem dX5_badAt_160 : decode cX5_badAt 160 = .ok (.aload_n 0, 1) := by decide +kernel
theorem dX5_badAt_161 : decode cX5_badAt 161 = .ok (.iload 5, 2) := by decide +kernel
theorem dX5_badAt_163 : decode cX5_badAt 163 = .ok (.putfield 110, 3) := by decide +kernel
theorem dX5_badAt_166 : decode cX5_badAt 166 = .ok (.aload_n 0, 1) := by decide +kernel
theorem dX5_badAt_167 : decode cX5_badAt 167 = .ok (.iload 6, 2) := by decide +kernel
theorem dX5_badAt_169 : decode cX5_badAt 169 = .ok (.putfield 113, 3) := by decide +kernel
theorem dX5_badAt_172 : decode cX5_badAt 172 = .ok (.aload_n 0, 1) := by decide +kernel
theorem dX5_badAt_173 : decode cX5_badAt 173 = .ok (.iconst 1, 1) := by decide +kernel
theorem dX5_badAt_174 : decode cX5_badAt 174 = .ok (.invokevirtual 199, 3) := by decide +kernel
theorem dX5_badAt_177 : decode cX5_badAt 177 = .ok (.iload 7, 2) := by decide +kernel
theorem dX5_badAt_179 : decode cX5_badAt 179 = .ok (.ireturn, 1) := by decide +kernel
theorem dX5_isVersion_0 : decode cX5_isVersion 0 = .ok (.iload_n 1, 1) := by decide +kernel
theorem dX5_isVersion_1 : decode cX5_isVersion 1 = .ok (.iconst (-1), 1) := by decide +kernel
theorem dX5_isVersion_2 : decode cX5_isVersion 2 = .ok (.if_icmp .eq 11, 3) := by decide +kernel
theorem dX5_isVersion_5 : decode cX5_isVersion 5 = .ok (.aload_n 0, 1) := by decide +kernel
theorem dX5_isVersion_6 : decode cX5_isVersion 6 = .ok (.iload_n 1, 1) := by decide +kernel
theorem dX5_isVersion_7 : decode cX5_isVersion 7 = .ok (.invokevirtual 152, 3) := by decide +kernel
theorem dX5_isVersion_10 : decode cX5_isVersion 10 = .ok (.ifCond .eq 7, 3) := by decide +kernel
theorem dX5_isVersion_13 : decode cX5_isVersion 13 = .ok (.iconst 1, 1) := by decide +kernel
theorem dX5_isVersion_14 : decode cX5_isVersion 14 = .ok (.goto 4, 3) := by decide +kernel
theorem dX5_isVersion_17 : decode cX5_isVersion 17 = .ok (.iconst 0, 1) := by decide +kernel
theorem dX5_isVersion_18 : decode cX5_isVersion 18 = .ok (.ireturn, 1) := by decide +kernel
theorem dX5_has_0 : decode cX5_has 0 = .ok (.aload_n 0, 1) := by decide +kernel
theorem dX5_has_1 : decode cX5_has 1 = .ok (.aload_n 0, 1) := by decide +kernel
theorem dX5_has_2 : decode cX5_has 2 = .ok (.getfield 94, 3) := by decide +kernel
theorem dX5_has_5 : decode cX5_has 5 = .ok (.ifCond .ne 7, 3) := by decide +kernel
theorem dX5_has_8 : decode cX5_has 8 = .ok (.iconst 1, 1) := by decide +kernel
theorem dX5_has_9 : decode cX5_has 9 = .ok (.goto 36, 3) := by decide +kernel
theorem dX5_has_12 : decode cX5_has 12 = .ok (.aload_n 0, 1) := by decide +kernel
theorem dX5_has_13 : decode cX5_has 13 = .ok (.iload_n 1, 1) := by decide +kernel
theorem dX5_has_14 : decode cX5_has 14 = .ok (.invokevirtual 203, 3) := by decide +kernel
theorem dX5_has_17 : decode cX5_has 17 = .ok (.ifCond .eq 23, 3) := by decide +kernel
theorem dX5_has_20 : decode cX5_has 20 = .ok (.iload_n 2, 1) := by decide +kernel
theorem dX5_has_21 : decode cX5_has 21 = .ok (.iconst 0, 1) := by decide +kernel
theorem dX5_has_22 : decode cX5_has 22 = .ok (.bipush 63, 2) := by decide +kernel
theorem dX5_has_24 : decode cX5_has 24 = .ok (.invokestatic 133, 3) := by decide +kernel
theorem dX5_has_27 : decode cX5_has 27 = .ok (.ifCond .eq 13, 3) := by decide +kernel
theorem dX5_has_30 : decode cX5_has 30 = .ok (.iload_n 3, 1) := by decide +kernel
theorem dX5_has_31 : decode cX5_has 31 = .ok (.iconst 0, 1) := by decide +kernel
theorem dX5_has_32 : decode cX5_has 32 = .ok (.bipush 63, 2) := by decide +kernel
theorem dX5_has_34 : decode cX5_has 34 = .ok (.invokestatic 133, 3) := by decide +kernel
theorem dX5_has_37 : decode cX5_has 37 = .ok (.ifCond .ne 7, 3) := by decide +kernel
theorem dX5_has_40 : decode cX5_has 40 = .ok (.iconst 2, 1) := by decide +kernel
theorem dX5_has_41 : decode cX5_has 41 = .ok (.goto 4, 3) := by decide +kernel
theorem dX5_has_44 : decode cX5_has 44 = .ok (.iconst 0, 1) := by decide +kernel
theorem dX5_has_45 : decode cX5_has 45 = .ok (.putfield 75, 3) := by decide +kernel
theorem dX5_has_48 : decode cX5_has 48 = .ok (.aload_n 0, 1) := by decide +kernel
theorem dX5_has_49 : decode cX5_has 49 = .ok (.getfield 75, 3) := by decide +kernel
theorem dX5_has_52 : decode cX5_has 52 = .ok (.ifCond .ne 22, 3) := by decide +kernel
theorem dX5_has_55 : decode cX5_has 55 = .ok (.aload_n 0, 1) := by decide +kernel
theorem dX5_has_56 : decode cX5_has 56 = .ok (.iload_n 1, 1) := by decide +kernel
theorem dX5_has_57 : decode cX5_has 57 = .ok (.iload_n 2, 1) := by decide +kernel
theorem dX5_has_58 : decode cX5_has 58 = .ok (.invokevirtual 178, 3) := by decide +kernel
theorem dX5_has_61 : decode cX5_has 61 = .ok (.iload_n 3, 1) := by decide +kernel
theorem dX5_has_62 : decode cX5_has 62 = .ok (.lushr, 1) := by decide +kernel
theorem dX5_has_63 : decode cX5_has 63 = .ok (.lconst 1, 1) := by decide +kernel
theorem dX5_has_64 : decode cX5_has 64 = .ok (.land, 1) := by decide +kernel
theorem dX5_has_65 : decode cX5_has 65 = .ok (.lconst 1, 1) := by decide +kernel
theorem dX5_has_66 : decode cX5_has 66 = .ok (.lcmp, 1) := by decide +kernel
theorem dX5_has_67 : decode cX5_has 67 = .ok (.ifCond .ne 7, 3) := by decide +kernel
theorem dX5_has_70 : decode cX5_has 70 = .ok (.iconst 1, 1) := by decide +kernel
theorem dX5_has_71 : decode cX5_has 71 = .ok (.goto 4, 3) := by decide +kernel
theorem dX5_has_74 : decode cX5_has 74 = .ok (.iconst 0, 1) := by decide +kernel
theorem dX5_has_75 : decode cX5_has 75 = .ok (.ireturn, 1) := by decide +kernel
theorem dX5_chunk_0 : decode cX5_chunk 0 = .ok (.aload_n 0, 1) := by decide +kernel
theorem dX5_chunk_1 : decode cX5_chunk 1 = .ok (.aload_n 0, 1) := by decide +kernel
theorem dX5_chunk_2 : decode cX5_chunk 2 = .ok (.getfield 94, 3) := by decide +kernel
theorem dX5_chunk_5 : decode cX5_chunk 5 = .ok (.ifCond .ne 7, 3) := by decide +kernel
theorem dX5_chunk_8 : decode cX5_chunk 8 = .ok (.iconst 1, 1) := by decide +kernel
theorem dX5_chunk_9 : decode cX5_chunk 9 = .ok (.goto 26, 3) := by decide +kernel
theorem dX5_chunk_12 : decode cX5_chunk 12 = .ok (.aload_n 0, 1) := by decide +kernel
theorem dX5_chunk_13 : decode cX5_chunk 13 = .ok (.iload_n 1, 1) := by decide +kernel
theorem dX5_chunk_14 : decode cX5_chunk 14 = .ok (.invokevirtual 152, 3) := by decide +kernel
theorem dX5_chunk_17 : decode cX5_chunk 17 = .ok (.ifCond .eq 13, 3) := by decide +kernel
theorem dX5_chunk_20 : decode cX5_chunk 20 = .ok (.iload_n 2, 1) := by decide +kernel
theorem dX5_chunk_21 : decode cX5_chunk 21 = .ok (.iconst 0, 1) := by decide +kernel
theorem dX5_chunk_22 : decode cX5_chunk 22 = .ok (.bipush 7, 2) := by decide +kernel
theorem dX5_chunk_24 : decode cX5_chunk 24 = .ok (.invokestatic 133, 3) := by decide +kernel
theorem dX5_chunk_27 : decode cX5_chunk 27 = .ok (.ifCond .ne 7, 3) := by decide +kernel
theorem dX5_chunk_30 : decode cX5_chunk 30 = .ok (.iconst 2, 1) := by decide +kernel
theorem dX5_chunk_31 : decode cX5_chunk 31 = .ok (.goto 4, 3) := by decide +kernel
theorem dX5_chunk_34 : decode cX5_chunk 34 = .ok (.iconst 0, 1) := by decide +kernel
theorem dX5_chunk_35 : decode cX5_chunk 35 = .ok (.putfield 75, 3) := by decide +kernel
theorem dX5_chunk_38 : decode cX5_chunk 38 = .ok (.aload_n 0, 1) := by decide +kernel
theorem dX5_chunk_39 : decode cX5_chunk 39 = .ok (.getfield 75, 3) := by decide +kernel
theorem dX5_chunk_42 : decode cX5_chunk 42 = .ok (.ifCond .le 7, 3) := by decide +kernel
theorem dX5_chunk_45 : decode cX5_chunk 45 = .ok (.iconst 0, 1) := by decide +kernel
theorem dX5_chunk_46 : decode cX5_chunk 46 = .ok (.goto 14, 3) := by decide +kernel
theorem dX5_chunk_49 : decode cX5_chunk 49 = .ok (.aload_n 0, 1) := by decide +kernel
theorem dX5_chunk_50 : decode cX5_chunk 50 = .ok (.getfield 35, 3) := by decide +kernel
theorem dX5_chunk_53 : decode cX5_chunk 53 = .ok (.bipush 8, 2) := by decide +kernel
theorem dX5_chunk_55 : decode cX5_chunk 55 = .ok (.iload_n 1, 1) := by decide +kernel
theorem dX5_chunk_56 : decode cX5_chunk 56 = .ok (.imul, 1) := by decide +kernel
theorem dX5_chunk_57 : decode cX5_chunk 57 = .ok (.iload_n 2, 1) := by decide +kernel
theorem dX5_chunk_58 : decode cX5_chunk 58 = .ok (.iadd, 1) := by decide +kernel
theorem dX5_chunk_59 : decode cX5_chunk 59 = .ok (.iaload, 1) := by decide +kernel
theorem dX5_chunk_60 : decode cX5_chunk 60 = .ok (.ireturn, 1) := by decide +kernel
theorem dX5_named_0 : decode cX5_named 0 = .ok (.aload_n 0, 1) := by decide +kernel
theorem dX5_named_1 : decode cX5_named 1 = .ok (.aload_n 0, 1) := by decide +kernel
theorem dX5_named_2 : decode cX5_named 2 = .ok (.getfield 94, 3) := by decide +kernel
theorem dX5_named_5 : decode cX5_named 5 = .ok (.ifCond .ne 7, 3) := by decide +kernel
theorem dX5_named_8 : decode cX5_named 8 = .ok (.iconst 1, 1) := by decide +kernel
theorem dX5_named_9 : decode cX5_named 9 = .ok (.goto 22, 3) := by decide +kernel
theorem dX5_named_12 : decode cX5_named 12 = .ok (.iload_n 1, 1) := by decide +kernel
theorem dX5_named_13 : decode cX5_named 13 = .ok (.iconst 0, 1) := by decide +kernel
theorem dX5_named_14 : decode cX5_named 14 = .ok (.aload_n 0, 1) := by decide +kernel
theorem dX5_named_15 : decode cX5_named 15 = .ok (.getfield 79, 3) := by decide +kernel
theorem dX5_named_18 : decode cX5_named 18 = .ok (.iconst 1, 1) := by decide +kernel
theorem dX5_named_19 : decode cX5_named 19 = .ok (.isub, 1) := by decide +kernel
theorem dX5_named_20 : decode cX5_named 20 = .ok (.invokestatic 133, 3) := by decide +kernel
theorem dX5_named_23 : decode cX5_named 23 = .ok (.ifCond .ne 7, 3) := by decide +kernel
theorem dX5_named_26 : decode cX5_named 26 = .ok (.iconst 2, 1) := by decide +kernel
theorem dX5_named_27 : decode cX5_named 27 = .ok (.goto 4, 3) := by decide +kernel
theorem dX5_named_30 : decode cX5_named 30 = .ok (.iconst 0, 1) := by decide +kernel
theorem dX5_named_31 : decode cX5_named 31 = .ok (.putfield 75, 3) := by decide +kernel
theorem dX5_named_34 : decode cX5_named 34 = .ok (.aload_n 0, 1) := by decide +kernel
theorem dX5_named_35 : decode cX5_named 35 = .ok (.getfield 75, 3) := by decide +kernel
theorem dX5_named_38 : decode cX5_named 38 = .ok (.ifCond .le 7, 3) := by decide +kernel
theorem dX5_named_41 : decode cX5_named 41 = .ok (.iconst 0, 1) := by decide +kernel
theorem dX5_named_42 : decode cX5_named 42 = .ok (.goto 8, 3) := by decide +kernel
theorem dX5_named_45 : decode cX5_named 45 = .ok (.aload_n 0, 1) := by decide +kernel
theorem dX5_named_46 : decode cX5_named 46 = .ok (.iload_n 1, 1) := by decide +kernel
theorem dX5_named_47 : decode cX5_named 47 = .ok (.invokevirtual 145, 3) := by decide +kernel
theorem dX5_named_50 : decode cX5_named 50 = .ok (.ireturn, 1) := by decide +kernel
theorem dX5_differ_0 : decode cX5_differ 0 = .ok (.aload_n 0, 1) := by decide +kernel
theorem dX5_differ_1 : decode cX5_differ 1 = .ok (.aload_n 0, 1) := by decide +kernel
theorem dX5_differ_2 : decode cX5_differ 2 = .ok (.getfield 94, 3) := by decide +kernel
theorem dX5_differ_5 : decode cX5_differ 5 = .ok (.ifCond .ne 7, 3) := by decide +kernel
theorem dX5_differ_8 : decode cX5_differ 8 = .ok (.iconst 1, 1) := by decide +kernel
theorem dX5_differ_9 : decode cX5_differ 9 = .ok (.goto 24, 3) := by decide +kernel
theorem dX5_differ_12 : decode cX5_differ 12 = .ok (.aload_n 0, 1) := by decide +kernel
theorem dX5_differ_13 : decode cX5_differ 13 = .ok (.iload_n 1, 1) := by decide +kernel
theorem dX5_differ_14 : decode cX5_differ 14 = .ok (.invokevirtual 203, 3) := by decide +kernel
theorem dX5_differ_17 : decode cX5_differ 17 = .ok (.ifCond .eq 11, 3) := by decide +kernel
theorem dX5_differ_20 : decode cX5_differ 20 = .ok (.aload_n 0, 1) := by decide +kernel
theorem dX5_differ_21 : decode cX5_differ 21 = .ok (.iload_n 2, 1) := by decide +kernel
theorem dX5_differ_22 : decode cX5_differ 22 = .ok (.invokevirtual 203, 3) := by decide +kernel
theorem dX5_differ_25 : decode cX5_differ 25 = .ok (.ifCond .ne 7, 3) := by decide +kernel
theorem dX5_differ_28 : decode cX5_differ 28 = .ok (.iconst 2, 1) := by decide +kernel
theorem dX5_differ_29 : decode cX5_differ 29 = .ok (.goto 4, 3) := by decide +kernel
theorem dX5_differ_32 : decode cX5_differ 32 = .ok (.iconst 0, 1) := by decide +kernel
theorem dX5_differ_33 : decode cX5_differ 33 = .ok (.putfield 75, 3) := by decide +kernel
theorem dX5_differ_36 : decode cX5_differ 36 = .ok (.aload_n 0, 1) := by decide +kernel
theorem dX5_differ_37 : decode cX5_differ 37 = .ok (.getfield 75, 3) := by decide +kernel
theorem dX5_differ_40 : decode cX5_differ 40 = .ok (.ifCond .le 5, 3) := by decide +kernel
theorem dX5_differ_43 : decode cX5_differ 43 = .ok (.iconst 0, 1) := by decide +kernel
theorem dX5_differ_44 : decode cX5_differ 44 = .ok (.ireturn, 1) := by decide +kernel
theorem dX5_differ_45 : decode cX5_differ 45 = .ok (.iconst 0, 1) := by decide +kernel
theorem dX5_differ_46 : decode cX5_differ 46 = .ok (.istore_n 3, 1) := by decide +kernel
theorem dX5_differ_47 : decode cX5_differ 47 = .ok (.iconst 0, 1) := by decide +kernel
theorem dX5_differ_48 : decode cX5_differ 48 = .ok (.istore 4, 2) := by decide +kernel
theorem dX5_differ_50 : decode cX5_differ 50 = .ok (.iload 4, 2) := by decide +kernel
theorem dX5_differ_52 : decode cX5_differ 52 = .ok (.bipush 64, 2) := by decide +kernel
theorem dX5_differ_54 : decode cX5_differ 54 = .ok (.if_icmp .ge 58, 3) := by decide +kernel
theorem dX5_differ_57 : decode cX5_differ 57 = .ok (.iconst 0, 1) := by decide +kernel
theorem dX5_differ_58 : decode cX5_differ 58 = .ok (.istore 5, 2) := by decide +kernel
theorem dX5_differ_60 : decode cX5_differ 60 = .ok (.iload 5, 2) := by decide +kernel
theorem dX5_differ_62 : decode cX5_differ 62 = .ok (.bipush 64, 2) := by decide +kernel
theorem dX5_differ_64 : decode cX5_differ 64 = .ok (.if_icmp .ge 42, 3) := by decide +kernel
theorem dX5_differ_67 : decode cX5_differ 67 = .ok (.iload_n 3, 1) := by decide +kernel
theorem dX5_differ_68 : decode cX5_differ 68 = .ok (.aload_n 0, 1) := by decide +kernel
theorem dX5_differ_69 : decode cX5_differ 69 = .ok (.iload_n 1, 1) := by decide +kernel
theorem dX5_differ_70 : decode cX5_differ 70 = .ok (.iload 4, 2) := by decide +kernel
theorem dX5_differ_72 : decode cX5_differ 72 = .ok (.invokevirtual 178, 3) := by decide +kernel
theorem dX5_differ_75 : decode cX5_differ 75 = .ok (.aload_n 0, 1) := by decide +kernel
theorem dX5_differ_76 : decode cX5_differ 76 = .ok (.iload_n 2, 1) := by decide +kernel
theorem dX5_differ_77 : decode cX5_differ 77 = .ok (.iload 4, 2) := by decide +kernel
theorem dX5_differ_79 : decode cX5_differ 79 = .ok (.invokevirtual 178, 3) := by decide +kernel
theorem dX5_differ_82 : decode cX5_differ 82 = .ok (.lxor, 1) := by decide +kernel
theorem dX5_differ_83 : decode cX5_differ 83 = .ok (.iload 5, 2) := by decide +kernel
theorem dX5_differ_85 : decode cX5_differ 85 = .ok (.lushr, 1) := by decide +kernel
theorem dX5_differ_86 : decode cX5_differ 86 = .ok (.lconst 1, 1) := by decide +kernel
theorem dX5_differ_87 : decode cX5_differ 87 = .ok (.land, 1) := by decide +kernel
theorem dX5_differ_88 : decode cX5_differ 88 = .ok (.lconst 1, 1) := by decide +kernel
theorem dX5_differ_89 : decode cX5_differ 89 = .ok (.lcmp, 1) := by decide +kernel
theorem dX5_differ_90 : decode cX5_differ 90 = .ok (.ifCond .ne 7, 3) := by decide +kernel
theorem dX5_differ_93 : decode cX5_differ 93 = .ok (.iconst 1, 1) := by decide +kernel
theorem dX5_differ_94 : decode cX5_differ 94 = .ok (.goto 4, 3) := by decide +kernel
theorem dX5_differ_97 : decode cX5_differ 97 = .ok (.iconst 0, 1) := by decide +kernel
theorem dX5_differ_98 : decode cX5_differ 98 = .ok (.iadd, 1) := by decide +kernel
theorem dX5_differ_99 : decode cX5_differ 99 = .ok (.istore_n 3, 1) := by decide +kernel
theorem dX5_differ_100 : decode cX5_differ 100 = .ok (.iinc 5 1, 3) := by decide +kernel
theorem dX5_differ_103 : decode cX5_differ 103 = .ok (.goto (-43), 3) := by decide +kernel
theorem dX5_differ_106 : decode cX5_differ 106 = .ok (.iinc 4 1, 3) := by decide +kernel
theorem dX5_differ_109 : decode cX5_differ 109 = .ok (.goto (-59), 3) := by decide +kernel
theorem dX5_differ_112 : decode cX5_differ 112 = .ok (.iload_n 3, 1) := by decide +kernel
theorem dX5_differ_113 : decode cX5_differ 113 = .ok (.ireturn, 1) := by decide +kernel
theorem dX5_far_0 : decode cX5_far 0 = .ok (.aload_n 0, 1) := by decide +kernel
theorem dX5_far_1 : decode cX5_far 1 = .ok (.aload_n 0, 1) := by decide +kernel
theorem dX5_far_2 : decode cX5_far 2 = .ok (.getfield 94, 3) := by decide +kernel
theorem dX5_far_5 : decode cX5_far 5 = .ok (.ifCond .ne 7, 3) := by decide +kernel
theorem dX5_far_8 : decode cX5_far 8 = .ok (.iconst 1, 1) := by decide +kernel
theorem dX5_far_9 : decode cX5_far 9 = .ok (.goto 36, 3) := by decide +kernel
theorem dX5_far_12 : decode cX5_far 12 = .ok (.aload_n 0, 1) := by decide +kernel
theorem dX5_far_13 : decode cX5_far 13 = .ok (.iload_n 1, 1) := by decide +kernel
theorem dX5_far_14 : decode cX5_far 14 = .ok (.invokevirtual 203, 3) := by decide +kernel
theorem dX5_far_17 : decode cX5_far 17 = .ok (.ifCond .eq 23, 3) := by decide +kernel
theorem dX5_far_20 : decode cX5_far 20 = .ok (.iload_n 2, 1) := by decide +kernel
theorem dX5_far_21 : decode cX5_far 21 = .ok (.iconst 0, 1) := by decide +kernel
theorem dX5_far_22 : decode cX5_far 22 = .ok (.bipush 63, 2) := by decide +kernel
theorem dX5_far_24 : decode cX5_far 24 = .ok (.invokestatic 133, 3) := by decide +kernel
theorem dX5_far_27 : decode cX5_far 27 = .ok (.ifCond .eq 13, 3) := by decide +kernel
theorem dX5_far_30 : decode cX5_far 30 = .ok (.iload_n 3, 1) := by decide +kernel
theorem dX5_far_31 : decode cX5_far 31 = .ok (.iconst 0, 1) := by decide +kernel
theorem dX5_far_32 : decode cX5_far 32 = .ok (.bipush 63, 2) := by decide +kernel
theorem dX5_far_34 : decode cX5_far 34 = .ok (.invokestatic 133, 3) := by decide +kernel
theorem dX5_far_37 : decode cX5_far 37 = .ok (.ifCond .ne 7, 3) := by decide +kernel
theorem dX5_far_40 : decode cX5_far 40 = .ok (.iconst 2, 1) := by decide +kernel
theorem dX5_far_41 : decode cX5_far 41 = .ok (.goto 4, 3) := by decide +kernel
theorem dX5_far_44 : decode cX5_far 44 = .ok (.iconst 0, 1) := by decide +kernel
theorem dX5_far_45 : decode cX5_far 45 = .ok (.putfield 75, 3) := by decide +kernel
theorem dX5_far_48 : decode cX5_far 48 = .ok (.aload_n 0, 1) := by decide +kernel
theorem dX5_far_49 : decode cX5_far 49 = .ok (.getfield 75, 3) := by decide +kernel
theorem dX5_far_52 : decode cX5_far 52 = .ok (.ifCond .le 5, 3) := by decide +kernel
theorem dX5_far_55 : decode cX5_far 55 = .ok (.iconst 0, 1) := by decide +kernel
theorem dX5_far_56 : decode cX5_far 56 = .ok (.ireturn, 1) := by decide +kernel
theorem dX5_far_57 : decode cX5_far 57 = .ok (.lconst 1, 1) := by decide +kernel
theorem dX5_far_58 : decode cX5_far 58 = .ok (.iload_n 2, 1) := by decide +kernel
theorem dX5_far_59 : decode cX5_far 59 = .ok (.lshl, 1) := by decide +kernel
theorem dX5_far_60 : decode cX5_far 60 = .ok (.lstore 4, 2) := by decide +kernel
theorem dX5_far_62 : decode cX5_far 62 = .ok (.iconst 0, 1) := by decide +kernel
theorem dX5_far_63 : decode cX5_far 63 = .ok (.istore 6, 2) := by decide +kernel
theorem dX5_far_65 : decode cX5_far 65 = .ok (.lconst 0, 1) := by decide +kernel
theorem dX5_far_66 : decode cX5_far 66 = .ok (.lstore 7, 2) := by decide +kernel
theorem dX5_far_68 : decode cX5_far 68 = .ok (.lload 4, 2) := by decide +kernel
theorem dX5_far_70 : decode cX5_far 70 = .ok (.lload 7, 2) := by decide +kernel
theorem dX5_far_72 : decode cX5_far 72 = .ok (.lcmp, 1) := by decide +kernel
theorem dX5_far_73 : decode cX5_far 73 = .ok (.ifCond .eq 67, 3) := by decide +kernel
theorem dX5_far_76 : decode cX5_far 76 = .ok (.lload 4, 2) := by decide +kernel
theorem dX5_far_78 : decode cX5_far 78 = .ok (.iload_n 3, 1) := by decide +kernel
theorem dX5_far_79 : decode cX5_far 79 = .ok (.lushr, 1) := by decide +kernel
theorem dX5_far_80 : decode cX5_far 80 = .ok (.lconst 1, 1) := by decide +kernel
theorem dX5_far_81 : decode cX5_far 81 = .ok (.land, 1) := by decide +kernel
theorem dX5_far_82 : decode cX5_far 82 = .ok (.lconst 1, 1) := by decide +kernel
theorem dX5_far_83 : decode cX5_far 83 = .ok (.lcmp, 1) := by decide +kernel
theorem dX5_far_84 : decode cX5_far 84 = .ok (.ifCond .ne 6, 3) := by decide +kernel
theorem dX5_far_87 : decode cX5_far 87 = .ok (.iload 6, 2) := by decide +kernel
theorem dX5_far_89 : decode cX5_far 89 = .ok (.ireturn, 1) := by decide +kernel
theorem dX5_far_90 : decode cX5_far 90 = .ok (.lload 4, 2) := by decide +kernel
theorem dX5_far_92 : decode cX5_far 92 = .ok (.lstore 7, 2) := by decide +kernel
theorem dX5_far_94 : decode cX5_far 94 = .ok (.iconst 0, 1) := by decide +kernel
theorem dX5_far_95 : decode cX5_far 95 = .ok (.istore 9, 2) := by decide +kernel
theorem dX5_far_97 : decode cX5_far 97 = .ok (.iload 9, 2) := by decide +kernel
theorem dX5_far_99 : decode cX5_far 99 = .ok (.bipush 64, 2) := by decide +kernel
theorem dX5_far_101 : decode cX5_far 101 = .ok (.if_icmp .ge 33, 3) := by decide +kernel
theorem dX5_far_104 : decode cX5_far 104 = .ok (.lload 7, 2) := by decide +kernel
theorem dX5_far_106 : decode cX5_far 106 = .ok (.iload 9, 2) := by decide +kernel
theorem dX5_far_108 : decode cX5_far 108 = .ok (.lushr, 1) := by decide +kernel
theorem dX5_far_109 : decode cX5_far 109 = .ok (.lconst 1, 1) := by decide +kernel
theorem dX5_far_110 : decode cX5_far 110 = .ok (.land, 1) := by decide +kernel
theorem dX5_far_111 : decode cX5_far 111 = .ok (.lconst 1, 1) := by decide +kernel
theorem dX5_far_112 : decode cX5_far 112 = .ok (.lcmp, 1) := by decide +kernel
theorem dX5_far_113 : decode cX5_far 113 = .ok (.ifCond .ne 15, 3) := by decide +kernel
theorem dX5_far_116 : decode cX5_far 116 = .ok (.lload 4, 2) := by decide +kernel
theorem dX5_far_118 : decode cX5_far 118 = .ok (.aload_n 0, 1) := by decide +kernel
theorem dX5_far_119 : decode cX5_far 119 = .ok (.iload_n 1, 1) := by decide +kernel
theorem dX5_far_120 : decode cX5_far 120 = .ok (.iload 9, 2) := by decide +kernel
theorem dX5_far_122 : decode cX5_far 122 = .ok (.invokevirtual 178, 3) := by decide +kernel
theorem dX5_far_125 : decode cX5_far 125 = .ok (.lor, 1) := by decide +kernel
theorem dX5_far_126 : decode cX5_far 126 = .ok (.lstore 4, 2) := by decide +kernel
theorem dX5_far_128 : decode cX5_far 128 = .ok (.iinc 9 1, 3) := by decide +kernel
theorem dX5_far_131 : decode cX5_far 131 = .ok (.goto (-34), 3) := by decide +kernel
theorem dX5_far_134 : decode cX5_far 134 = .ok (.iinc 6 1, 3) := by decide +kernel
theorem dX5_far_137 : decode cX5_far 137 = .ok (.goto (-69), 3) := by decide +kernel
theorem dX5_far_140 : decode cX5_far 140 = .ok (.iconst (-1), 1) := by decide +kernel
theorem dX5_far_141 : decode cX5_far 141 = .ok (.ireturn, 1) := by decide +kernel
theorem dX5_usable_0 : decode cX5_usable 0 = .ok (.aload_n 0, 1) := by decide +kernel
theorem dX5_usable_1 : decode cX5_usable 1 = .ok (.aload_n 0, 1) := by decide +kernel
theorem dX5_usable_2 : decode cX5_usable 2 = .ok (.getfield 94, 3) := by decide +kernel
theorem dX5_usable_5 : decode cX5_usable 5 = .ok (.ifCond .ne 7, 3) := by decide +kernel
theorem dX5_usable_8 : decode cX5_usable 8 = .ok (.iconst 1, 1) := by decide +kernel
theorem dX5_usable_9 : decode cX5_usable 9 = .ok (.goto 22, 3) := by decide +kernel
theorem dX5_usable_12 : decode cX5_usable 12 = .ok (.iload_n 1, 1) := by decide +kernel
theorem dX5_usable_13 : decode cX5_usable 13 = .ok (.iconst 0, 1) := by decide +kernel
theorem dX5_usable_14 : decode cX5_usable 14 = .ok (.aload_n 0, 1) := by decide +kernel
theorem dX5_usable_15 : decode cX5_usable 15 = .ok (.getfield 113, 3) := by decide +kernel
theorem dX5_usable_18 : decode cX5_usable 18 = .ok (.iconst 1, 1) := by decide +kernel
theorem dX5_usable_19 : decode cX5_usable 19 = .ok (.isub, 1) := by decide +kernel
theorem dX5_usable_20 : decode cX5_usable 20 = .ok (.invokestatic 133, 3) := by decide +kernel
theorem dX5_usable_23 : decode cX5_usable 23 = .ok (.ifCond .ne 7, 3) := by decide +kernel
theorem dX5_usable_26 : decode cX5_usable 26 = .ok (.iconst 2, 1) := by decide +kernel
theorem dX5_usable_27 : decode cX5_usable 27 = .ok (.goto 4, 3) := by decide +kernel
theorem dX5_usable_30 : decode cX5_usable 30 = .ok (.iconst 0, 1) := by decide +kernel
theorem dX5_usable_31 : decode cX5_usable 31 = .ok (.putfield 75, 3) := by decide +kernel
theorem dX5_usable_34 : decode cX5_usable 34 = .ok (.aload_n 0, 1) := by decide +kernel
theorem dX5_usable_35 : decode cX5_usable 35 = .ok (.getfield 75, 3) := by decide +kernel
theorem dX5_usable_38 : decode cX5_usable 38 = .ok (.ifCond .ne 20, 3) := by decide +kernel
theorem dX5_usable_41 : decode cX5_usable 41 = .ok (.aload_n 0, 1) := by decide +kernel
theorem dX5_usable_42 : decode cX5_usable 42 = .ok (.aload_n 0, 1) := by decide +kernel
theorem dX5_usable_43 : decode cX5_usable 43 = .ok (.getfield 38, 3) := by decide +kernel
theorem dX5_usable_46 : decode cX5_usable 46 = .ok (.iload_n 1, 1) := by decide +kernel
theorem dX5_usable_47 : decode cX5_usable 47 = .ok (.iaload, 1) := by decide +kernel
theorem dX5_usable_48 : decode cX5_usable 48 = .ok (.invokevirtual 152, 3) := by decide +kernel
theorem dX5_usable_51 : decode cX5_usable 51 = .ok (.ifCond .eq 7, 3) := by decide +kernel
theorem dX5_usable_54 : decode cX5_usable 54 = .ok (.iconst 1, 1) := by decide +kernel
theorem dX5_usable_55 : decode cX5_usable 55 = .ok (.goto 4, 3) := by decide +kernel
theorem dX5_usable_58 : decode cX5_usable 58 = .ok (.iconst 0, 1) := by decide +kernel
theorem dX5_usable_59 : decode cX5_usable 59 = .ok (.ireturn, 1) := by decide +kernel
theorem dX5_mask_0 : decode cX5_mask 0 = .ok (.aload_n 0, 1) := by decide +kernel
theorem dX5_mask_1 : decode cX5_mask 1 = .ok (.aload_n 0, 1) := by decide +kernel
theorem dX5_mask_2 : decode cX5_mask 2 = .ok (.getfield 94, 3) := by decide +kernel
theorem dX5_mask_5 : decode cX5_mask 5 = .ok (.ifCond .ne 7, 3) := by decide +kernel
theorem dX5_mask_8 : decode cX5_mask 8 = .ok (.iconst 1, 1) := by decide +kernel
theorem dX5_mask_9 : decode cX5_mask 9 = .ok (.goto 22, 3) := by decide +kernel
theorem dX5_mask_12 : decode cX5_mask 12 = .ok (.iload_n 1, 1) := by decide +kernel
theorem dX5_mask_13 : decode cX5_mask 13 = .ok (.iconst 0, 1) := by decide +kernel
theorem dX5_mask_14 : decode cX5_mask 14 = .ok (.aload_n 0, 1) := by decide +kernel
theorem dX5_mask_15 : decode cX5_mask 15 = .ok (.getfield 113, 3) := by decide +kernel
theorem dX5_mask_18 : decode cX5_mask 18 = .ok (.iconst 1, 1) := by decide +kernel
theorem dX5_mask_19 : decode cX5_mask 19 = .ok (.isub, 1) := by decide +kernel
theorem dX5_mask_20 : decode cX5_mask 20 = .ok (.invokestatic 133, 3) := by decide +kernel
theorem dX5_mask_23 : decode cX5_mask 23 = .ok (.ifCond .ne 7, 3) := by decide +kernel
theorem dX5_mask_26 : decode cX5_mask 26 = .ok (.iconst 2, 1) := by decide +kernel
theorem dX5_mask_27 : decode cX5_mask 27 = .ok (.goto 4, 3) := by decide +kernel
theorem dX5_mask_30 : decode cX5_mask 30 = .ok (.iconst 0, 1) := by decide +kernel
theorem dX5_mask_31 : decode cX5_mask 31 = .ok (.putfield 75, 3) := by decide +kernel
theorem dX5_mask_34 : decode cX5_mask 34 = .ok (.aload_n 0, 1) := by decide +kernel
theorem dX5_mask_35 : decode cX5_mask 35 = .ok (.getfield 75, 3) := by decide +kernel
theorem dX5_mask_38 : decode cX5_mask 38 = .ok (.ifCond .le 7, 3) := by decide +kernel
theorem dX5_mask_41 : decode cX5_mask 41 = .ok (.lconst 0, 1) := by decide +kernel
theorem dX5_mask_42 : decode cX5_mask 42 = .ok (.goto 9, 3) := by decide +kernel
theorem dX5_mask_45 : decode cX5_mask 45 = .ok (.aload_n 0, 1) := by decide +kernel
theorem dX5_mask_46 : decode cX5_mask 46 = .ok (.getfield 41, 3) := by decide +kernel
theorem dX5_mask_49 : decode cX5_mask 49 = .ok (.iload_n 1, 1) := by decide +kernel
theorem dX5_mask_50 : decode cX5_mask 50 = .ok (.laload, 1) := by decide +kernel
theorem dX5_mask_51 : decode cX5_mask 51 = .ok (.lreturn, 1) := by decide +kernel
theorem dX5_told_0 : decode cX5_told 0 = .ok (.aload_n 0, 1) := by decide +kernel
theorem dX5_told_1 : decode cX5_told 1 = .ok (.aload_n 0, 1) := by decide +kernel
theorem dX5_told_2 : decode cX5_told 2 = .ok (.getfield 94, 3) := by decide +kernel
theorem dX5_told_5 : decode cX5_told 5 = .ok (.ifCond .ne 7, 3) := by decide +kernel
theorem dX5_told_8 : decode cX5_told 8 = .ok (.iconst 1, 1) := by decide +kernel
theorem dX5_told_9 : decode cX5_told 9 = .ok (.goto 18, 3) := by decide +kernel
theorem dX5_told_12 : decode cX5_told 12 = .ok (.iload_n 1, 1) := by decide +kernel
theorem dX5_told_13 : decode cX5_told 13 = .ok (.iconst 0, 1) := by decide +kernel
theorem dX5_told_14 : decode cX5_told 14 = .ok (.bipush 9, 2) := by decide +kernel
theorem dX5_told_16 : decode cX5_told 16 = .ok (.invokestatic 133, 3) := by decide +kernel
theorem dX5_told_19 : decode cX5_told 19 = .ok (.ifCond .ne 7, 3) := by decide +kernel
theorem dX5_told_22 : decode cX5_told 22 = .ok (.iconst 2, 1) := by decide +kernel
theorem dX5_told_23 : decode cX5_told 23 = .ok (.goto 4, 3) := by decide +kernel
theorem dX5_told_26 : decode cX5_told 26 = .ok (.iconst 0, 1) := by decide +kernel
theorem dX5_told_27 : decode cX5_told 27 = .ok (.putfield 75, 3) := by decide +kernel
theorem dX5_told_30 : decode cX5_told 30 = .ok (.aload_n 0, 1) := by decide +kernel
theorem dX5_told_31 : decode cX5_told 31 = .ok (.getfield 75, 3) := by decide +kernel
theorem dX5_told_34 : decode cX5_told 34 = .ok (.ifCond .le 5, 3) := by decide +kernel
theorem dX5_told_37 : decode cX5_told 37 = .ok (.iconst 0, 1) := by decide +kernel
theorem dX5_told_38 : decode cX5_told 38 = .ok (.ireturn, 1) := by decide +kernel
theorem dX5_told_39 : decode cX5_told 39 = .ok (.iload_n 1, 1) := by decide +kernel
theorem dX5_told_40 : decode cX5_told 40 = .ok (.ifCond .ne 8, 3) := by decide +kernel
theorem dX5_told_43 : decode cX5_told 43 = .ok (.aload_n 0, 1) := by decide +kernel
theorem dX5_told_44 : decode cX5_told 44 = .ok (.invokevirtual 196, 3) := by decide +kernel
theorem dX5_told_47 : decode cX5_told 47 = .ok (.ireturn, 1) := by decide +kernel
theorem dX5_told_48 : decode cX5_told 48 = .ok (.iload_n 1, 1) := by decide +kernel
theorem dX5_told_49 : decode cX5_told 49 = .ok (.iconst 1, 1) := by decide +kernel
theorem dX5_told_50 : decode cX5_told 50 = .ok (.if_icmp .ne 8, 3) := by decide +kernel
theorem dX5_told_53 : decode cX5_told 53 = .ok (.aload_n 0, 1) := by decide +kernel
theorem dX5_told_54 : decode cX5_told 54 = .ok (.getfield 110, 3) := by decide +kernel
theorem dX5_told_57 : decode cX5_told 57 = .ok (.ireturn, 1) := by decide +kernel
theorem dX5_told_58 : decode cX5_told 58 = .ok (.iload_n 1, 1) := by decide +kernel
theorem dX5_told_59 : decode cX5_told 59 = .ok (.iconst 2, 1) := by decide +kernel
theorem dX5_told_60 : decode cX5_told 60 = .ok (.if_icmp .ne 8, 3) := by decide +kernel
theorem dX5_told_63 : decode cX5_told 63 = .ok (.aload_n 0, 1) := by decide +kernel
theorem dX5_told_64 : decode cX5_told 64 = .ok (.getfield 113, 3) := by decide +kernel
theorem dX5_told_67 : decode cX5_told 67 = .ok (.ireturn, 1) := by decide +kernel
theorem dX5_told_68 : decode cX5_told 68 = .ok (.iload_n 1, 1) := by decide +kernel
theorem dX5_told_69 : decode cX5_told 69 = .ok (.iconst 3, 1) := by decide +kernel
theorem dX5_told_70 : decode cX5_told 70 = .ok (.if_icmp .ne 8, 3) := by decide +kernel
theorem dX5_told_73 : decode cX5_told 73 = .ok (.aload_n 0, 1) := by decide +kernel
theorem dX5_told_74 : decode cX5_told 74 = .ok (.getfield 98, 3) := by decide +kernel
theorem dX5_told_77 : decode cX5_told 77 = .ok (.ireturn, 1) := by decide +kernel
theorem dX5_told_78 : decode cX5_told 78 = .ok (.iload_n 1, 1) := by decide +kernel
theorem dX5_told_79 : decode cX5_told 79 = .ok (.iconst 4, 1) := by decide +kernel
theorem dX5_told_80 : decode cX5_told 80 = .ok (.if_icmp .ne 8, 3) := by decide +kernel
theorem dX5_told_83 : decode cX5_told 83 = .ok (.aload_n 0, 1) := by decide +kernel
theorem dX5_told_84 : decode cX5_told 84 = .ok (.getfield 104, 3) := by decide +kernel
theorem dX5_told_87 : decode cX5_told 87 = .ok (.ireturn, 1) := by decide +kernel
theorem dX5_told_88 : decode cX5_told 88 = .ok (.iload_n 1, 1) := by decide +kernel
theorem dX5_told_89 : decode cX5_told 89 = .ok (.iconst 5, 1) := by decide +kernel
theorem dX5_told_90 : decode cX5_told 90 = .ok (.if_icmp .ne 8, 3) := by decide +kernel
theorem dX5_told_93 : decode cX5_told 93 = .ok (.aload_n 0, 1) := by decide +kernel
theorem dX5_told_94 : decode cX5_told 94 = .ok (.getfield 88, 3) := by decide +kernel
theorem dX5_told_97 : decode cX5_told 97 = .ok (.ireturn, 1) := by decide +kernel
theorem dX5_told_98 : decode cX5_told 98 = .ok (.iload_n 1, 1) := by decide +kernel
theorem dX5_told_99 : decode cX5_told 99 = .ok (.bipush 7, 2) := by decide +kernel
theorem dX5_told_101 : decode cX5_told 101 = .ok (.if_icmp .ne 8, 3) := by decide +kernel
theorem dX5_told_104 : decode cX5_told 104 = .ok (.aload_n 0, 1) := by decide +kernel
theorem dX5_told_105 : decode cX5_told 105 = .ok (.invokevirtual 184, 3) := by decide +kernel
theorem dX5_told_108 : decode cX5_told 108 = .ok (.ireturn, 1) := by decide +kernel
theorem dX5_told_109 : decode cX5_told 109 = .ok (.iload_n 1, 1) := by decide +kernel
theorem dX5_told_110 : decode cX5_told 110 = .ok (.bipush 8, 2) := by decide +kernel
theorem dX5_told_112 : decode cX5_told 112 = .ok (.if_icmp .ne 8, 3) := by decide +kernel
theorem dX5_told_115 : decode cX5_told 115 = .ok (.aload_n 0, 1) := by decide +kernel
theorem dX5_told_116 : decode cX5_told 116 = .ok (.getfield 101, 3) := by decide +kernel
theorem dX5_told_119 : decode cX5_told 119 = .ok (.ireturn, 1) := by decide +kernel
theorem dX5_told_120 : decode cX5_told 120 = .ok (.iload_n 1, 1) := by decide +kernel
theorem dX5_told_121 : decode cX5_told 121 = .ok (.bipush 9, 2) := by decide +kernel
theorem dX5_told_123 : decode cX5_told 123 = .ok (.if_icmp .ne 8, 3) := by decide +kernel
theorem dX5_told_126 : decode cX5_told 126 = .ok (.aload_n 0, 1) := by decide +kernel
theorem dX5_told_127 : decode cX5_told 127 = .ok (.getfield 85, 3) := by decide +kernel
theorem dX5_told_130 : decode cX5_told 130 = .ok (.ireturn, 1) := by decide +kernel
theorem dX5_told_131 : decode cX5_told 131 = .ok (.iconst 0, 1) := by decide +kernel
theorem dX5_told_132 : decode cX5_told 132 = .ok (.istore_n 2, 1) := by decide +kernel
theorem dX5_told_133 : decode cX5_told 133 = .ok (.iconst 0, 1) := by decide +kernel
theorem dX5_told_134 : decode cX5_told 134 = .ok (.istore_n 3, 1) := by decide +kernel
theorem dX5_told_135 : decode cX5_told 135 = .ok (.iload_n 3, 1) := by decide +kernel
theorem dX5_told_136 : decode cX5_told 136 = .ok (.bipush 64, 2) := by decide +kernel
theorem dX5_told_138 : decode cX5_told 138 = .ok (.if_icmp .ge 43, 3) := by decide +kernel
theorem dX5_told_141 : decode cX5_told 141 = .ok (.iconst 0, 1) := by decide +kernel
theorem dX5_told_142 : decode cX5_told 142 = .ok (.istore 4, 2) := by decide +kernel
theorem dX5_told_144 : decode cX5_told 144 = .ok (.iload 4, 2) := by decide +kernel
theorem dX5_told_146 : decode cX5_told 146 = .ok (.bipush 64, 2) := by decide +kernel
theorem dX5_told_148 : decode cX5_told 148 = .ok (.if_icmp .ge 27, 3) := by decide +kernel
theorem dX5_told_151 : decode cX5_told 151 = .ok (.iload_n 2, 1) := by decide +kernel
theorem dX5_told_152 : decode cX5_told 152 = .ok (.aload_n 0, 1) := by decide +kernel
theorem dX5_told_153 : decode cX5_told 153 = .ok (.iload_n 3, 1) := by decide +kernel
theorem dX5_told_154 : decode cX5_told 154 = .ok (.iload 4, 2) := by decide +kernel
theorem dX5_told_156 : decode cX5_told 156 = .ok (.invokevirtual 148, 3) := by decide +kernel
theorem dX5_told_159 : decode cX5_told 159 = .ok (.ifCond .eq 7, 3) := by decide +kernel
theorem dX5_told_162 : decode cX5_told 162 = .ok (.iconst 1, 1) := by decide +kernel
theorem dX5_told_163 : decode cX5_told 163 = .ok (.goto 4, 3) := by decide +kernel
theorem dX5_told_166 : decode cX5_told 166 = .ok (.iconst 0, 1) := by decide +kernel
theorem dX5_told_167 : decode cX5_told 167 = .ok (.iadd, 1) := by decide +kernel
theorem dX5_told_168 : decode cX5_told 168 = .ok (.istore_n 2, 1) := by decide +kernel
theorem dX5_told_169 : decode cX5_told 169 = .ok (.iinc 4 1, 3) := by decide +kernel
theorem dX5_told_172 : decode cX5_told 172 = .ok (.goto (-28), 3) := by decide +kernel
theorem dX5_told_175 : decode cX5_told 175 = .ok (.iinc 3 1, 3) := by decide +kernel
theorem dX5_told_178 : decode cX5_told 178 = .ok (.goto (-43), 3) := by decide +kernel
theorem dX5_told_181 : decode cX5_told 181 = .ok (.iload_n 2, 1) := by decide +kernel
theorem dX5_told_182 : decode cX5_told 182 = .ok (.ireturn, 1) := by decide +kernel
theorem dX5_isOpen_0 : decode cX5_isOpen 0 = .ok (.aload_n 0, 1) := by decide +kernel
theorem dX5_isOpen_1 : decode cX5_isOpen 1 = .ok (.iconst 0, 1) := by decide +kernel
theorem dX5_isOpen_2 : decode cX5_isOpen 2 = .ok (.putfield 75, 3) := by decide +kernel
theorem dX5_isOpen_5 : decode cX5_isOpen 5 = .ok (.aload_n 0, 1) := by decide +kernel
theorem dX5_isOpen_6 : decode cX5_isOpen 6 = .ok (.getfield 94, 3) := by decide +kernel
theorem dX5_isOpen_9 : decode cX5_isOpen 9 = .ok (.ireturn, 1) := by decide +kernel
end
section
theorem dL_law_0 : decode cL_law 0 = .ok (.new 8, 3) := by decide +kernel
theorem dL_law_3 : decode cL_law 3 = .ok (.dup, 1) := by decide +kernel
theorem dL_law_4 : decode cL_law 4 = .ok (.invokespecial 77, 3) := by decide +kernel
theorem dL_law_7 : decode cL_law 7 = .ok (.astore_n 1, 1) := by decide +kernel
theorem dL_law_8 : decode cL_law 8 = .ok (.new 78, 3) := by decide +kernel
theorem dL_law_11 : decode cL_law 11 = .ok (.dup, 1) := by decide +kernel
theorem dL_law_12 : decode cL_law 12 = .ok (.invokespecial 80, 3) := by decide +kernel
theorem dL_law_15 : decode cL_law 15 = .ok (.astore_n 2, 1) := by decide +kernel
theorem dL_law_16 : decode cL_law 16 = .ok (.iconst 1, 1) := by decide +kernel
theorem dL_law_17 : decode cL_law 17 = .ok (.newarray .long, 2) := by decide +kernel
theorem dL_law_19 : decode cL_law 19 = .ok (.astore_n 3, 1) := by decide +kernel
theorem dL_law_20 : decode cL_law 20 = .ok (.iconst 0, 1) := by decide +kernel
theorem dL_law_21 : decode cL_law 21 = .ok (.istore 4, 2) := by decide +kernel
theorem dL_law_23 : decode cL_law 23 = .ok (.iload 4, 2) := by decide +kernel
theorem dL_law_25 : decode cL_law 25 = .ok (.aload_n 0, 1) := by decide +kernel
theorem dL_law_26 : decode cL_law 26 = .ok (.arraylength, 1) := by decide +kernel
theorem dL_law_27 : decode cL_law 27 = .ok (.iconst 4, 1) := by decide +kernel
theorem dL_law_28 : decode cL_law 28 = .ok (.isub, 1) := by decide +kernel
theorem dL_law_29 : decode cL_law 29 = .ok (.if_icmp .gt 1205, 3) := by decide +kernel
theorem dL_law_32 : decode cL_law 32 = .ok (.aload_n 0, 1) := by decide +kernel
theorem dL_law_33 : decode cL_law 33 = .ok (.iload 4, 2) := by decide +kernel
theorem dL_law_35 : decode cL_law 35 = .ok (.iaload, 1) := by decide +kernel
theorem dL_law_36 : decode cL_law 36 = .ok (.bipush 31, 2) := by decide +kernel
theorem dL_law_38 : decode cL_law 38 = .ok (.iand, 1) := by decide +kernel
theorem dL_law_39 : decode cL_law 39 = .ok (.tableswitch 1189 0 19 #[93, 129, 225, 269, 337, 393, 437, 462, 475, 543, 599, 643, 730, 798, 854, 922, 1002, 1065, 1120, 1176], 93) := by decide +kernel
theorem dL_law_132 : decode cL_law 132 = .ok (.aload_n 1, 1) := by decide +kernel
theorem dL_law_133 : decode cL_law 133 = .ok (.aload_n 0, 1) := by decide +kernel
theorem dL_law_134 : decode cL_law 134 = .ok (.iload 4, 2) := by decide +kernel
theorem dL_law_136 : decode cL_law 136 = .ok (.iconst 1, 1) := by decide +kernel
theorem dL_law_137 : decode cL_law 137 = .ok (.iadd, 1) := by decide +kernel
theorem dL_law_138 : decode cL_law 138 = .ok (.iaload, 1) := by decide +kernel
theorem dL_law_139 : decode cL_law 139 = .ok (.invokestatic 81, 3) := by decide +kernel
theorem dL_law_142 : decode cL_law 142 = .ok (.istore 5, 2) := by decide +kernel
theorem dL_law_144 : decode cL_law 144 = .ok (.aload_n 2, 1) := by decide +kernel
theorem dL_law_145 : decode cL_law 145 = .ok (.aload_n 0, 1) := by decide +kernel
theorem dL_law_146 : decode cL_law 146 = .ok (.iload 4, 2) := by decide +kernel
theorem dL_law_148 : decode cL_law 148 = .ok (.iconst 1, 1) := by decide +kernel
theorem dL_law_149 : decode cL_law 149 = .ok (.iadd, 1) := by decide +kernel
theorem dL_law_150 : decode cL_law 150 = .ok (.iaload, 1) := by decide +kernel
theorem dL_law_151 : decode cL_law 151 = .ok (.invokevirtual 86, 3) := by decide +kernel
theorem dL_law_154 : decode cL_law 154 = .ok (.aload_n 2, 1) := by decide +kernel
theorem dL_law_155 : decode cL_law 155 = .ok (.invokevirtual 87, 3) := by decide +kernel
theorem dL_law_158 : decode cL_law 158 = .ok (.iload 5, 2) := by decide +kernel
theorem dL_law_160 : decode cL_law 160 = .ok (.if_icmp .eq 5, 3) := by decide +kernel
theorem dL_law_163 : decode cL_law 163 = .ok (.iconst 0, 1) := by decide +kernel
theorem dL_law_164 : decode cL_law 164 = .ok (.ireturn, 1) := by decide +kernel
theorem dL_law_165 : decode cL_law 165 = .ok (.goto 1063, 3) := by decide +kernel
theorem dL_law_168 : decode cL_law 168 = .ok (.aload_n 1, 1) := by decide +kernel
theorem dL_law_169 : decode cL_law 169 = .ok (.aload_n 0, 1) := by decide +kernel
theorem dL_law_170 : decode cL_law 170 = .ok (.iload 4, 2) := by decide +kernel
theorem dL_law_172 : decode cL_law 172 = .ok (.iconst 1, 1) := by decide +kernel
theorem dL_law_173 : decode cL_law 173 = .ok (.iadd, 1) := by decide +kernel
theorem dL_law_174 : decode cL_law 174 = .ok (.iaload, 1) := by decide +kernel
theorem dL_law_175 : decode cL_law 175 = .ok (.aload_n 0, 1) := by decide +kernel
theorem dL_law_176 : decode cL_law 176 = .ok (.iload 4, 2) := by decide +kernel
theorem dL_law_178 : decode cL_law 178 = .ok (.iconst 2, 1) := by decide +kernel
theorem dL_law_179 : decode cL_law 179 = .ok (.iadd, 1) := by decide +kernel
theorem dL_law_180 : decode cL_law 180 = .ok (.iaload, 1) := by decide +kernel
theorem dL_law_181 : decode cL_law 181 = .ok (.aload_n 0, 1) := by decide +kernel
theorem dL_law_182 : decode cL_law 182 = .ok (.iload 4, 2) := by decide +kernel
theorem dL_law_184 : decode cL_law 184 = .ok (.iconst 3, 1) := by decide +kernel
theorem dL_law_185 : decode cL_law 185 = .ok (.iadd, 1) := by decide +kernel
theorem dL_law_186 : decode cL_law 186 = .ok (.iaload, 1) := by decide +kernel
theorem dL_law_187 : decode cL_law 187 = .ok (.ifCond .eq 7, 3) := by decide +kernel
theorem dL_law_190 : decode cL_law 190 = .ok (.iconst 1, 1) := by decide +kernel
theorem dL_law_191 : decode cL_law 191 = .ok (.goto 4, 3) := by decide +kernel
theorem dL_law_194 : decode cL_law 194 = .ok (.iconst 0, 1) := by decide +kernel
theorem dL_law_195 : decode cL_law 195 = .ok (.aload_n 3, 1) := by decide +kernel
theorem dL_law_196 : decode cL_law 196 = .ok (.invokestatic 90, 3) := by decide +kernel
theorem dL_law_199 : decode cL_law 199 = .ok (.istore 5, 2) := by decide +kernel
theorem dL_law_201 : decode cL_law 201 = .ok (.aload_n 2, 1) := by decide +kernel
theorem dL_law_202 : decode cL_law 202 = .ok (.aload_n 0, 1) := by decide +kernel
theorem dL_law_203 : decode cL_law 203 = .ok (.iload 4, 2) := by decide +kernel
theorem dL_law_205 : decode cL_law 205 = .ok (.iconst 1, 1) := by decide +kernel
theorem dL_law_206 : decode cL_law 206 = .ok (.iadd, 1) := by decide +kernel
theorem dL_law_207 : decode cL_law 207 = .ok (.iaload, 1) := by decide +kernel
theorem dL_law_208 : decode cL_law 208 = .ok (.aload_n 0, 1) := by decide +kernel
theorem dL_law_209 : decode cL_law 209 = .ok (.iload 4, 2) := by decide +kernel
theorem dL_law_211 : decode cL_law 211 = .ok (.iconst 2, 1) := by decide +kernel
theorem dL_law_212 : decode cL_law 212 = .ok (.iadd, 1) := by decide +kernel
theorem dL_law_213 : decode cL_law 213 = .ok (.iaload, 1) := by decide +kernel
theorem dL_law_214 : decode cL_law 214 = .ok (.aload_n 0, 1) := by decide +kernel
theorem dL_law_215 : decode cL_law 215 = .ok (.iload 4, 2) := by decide +kernel
theorem dL_law_217 : decode cL_law 217 = .ok (.iconst 3, 1) := by decide +kernel
theorem dL_law_218 : decode cL_law 218 = .ok (.iadd, 1) := by decide +kernel
theorem dL_law_219 : decode cL_law 219 = .ok (.iaload, 1) := by decide +kernel
theorem dL_law_220 : decode cL_law 220 = .ok (.ifCond .eq 7, 3) := by decide +kernel
theorem dL_law_223 : decode cL_law 223 = .ok (.iconst 1, 1) := by decide +kernel
theorem dL_law_224 : decode cL_law 224 = .ok (.goto 4, 3) := by decide +kernel
theorem dL_law_227 : decode cL_law 227 = .ok (.iconst 0, 1) := by decide +kernel
theorem dL_law_228 : decode cL_law 228 = .ok (.invokevirtual 93, 3) := by decide +kernel
theorem dL_law_231 : decode cL_law 231 = .ok (.istore 6, 2) := by decide +kernel
theorem dL_law_233 : decode cL_law 233 = .ok (.aload_n 2, 1) := by decide +kernel
theorem dL_law_234 : decode cL_law 234 = .ok (.invokevirtual 87, 3) := by decide +kernel
theorem dL_law_237 : decode cL_law 237 = .ok (.iload 5, 2) := by decide +kernel
theorem dL_law_239 : decode cL_law 239 = .ok (.if_icmp .eq 5, 3) := by decide +kernel
theorem dL_law_242 : decode cL_law 242 = .ok (.iconst 0, 1) := by decide +kernel
theorem dL_law_243 : decode cL_law 243 = .ok (.ireturn, 1) := by decide +kernel
theorem dL_law_244 : decode cL_law 244 = .ok (.iload 5, 2) := by decide +kernel
theorem dL_law_246 : decode cL_law 246 = .ok (.ifCond .ne 15, 3) := by decide +kernel
theorem dL_law_249 : decode cL_law 249 = .ok (.aload_n 3, 1) := by decide +kernel
theorem dL_law_250 : decode cL_law 250 = .ok (.iconst 0, 1) := by decide +kernel
theorem dL_law_251 : decode cL_law 251 = .ok (.laload, 1) := by decide +kernel
theorem dL_law_252 : decode cL_law 252 = .ok (.iload 6, 2) := by decide +kernel
theorem dL_law_254 : decode cL_law 254 = .ok (.i2l, 1) := by decide +kernel
theorem dL_law_255 : decode cL_law 255 = .ok (.lcmp, 1) := by decide +kernel
theorem dL_law_256 : decode cL_law 256 = .ok (.ifCond .eq 5, 3) := by decide +kernel
theorem dL_law_259 : decode cL_law 259 = .ok (.iconst 0, 1) := by decide +kernel
theorem dL_law_260 : decode cL_law 260 = .ok (.ireturn, 1) := by decide +kernel
theorem dL_law_261 : decode cL_law 261 = .ok (.goto 967, 3) := by decide +kernel
theorem dL_law_264 : decode cL_law 264 = .ok (.aload_n 1, 1) := by decide +kernel
theorem dL_law_265 : decode cL_law 265 = .ok (.aload_n 3, 1) := by decide +kernel
theorem dL_law_266 : decode cL_law 266 = .ok (.invokestatic 94, 3) := by decide +kernel
theorem dL_law_269 : decode cL_law 269 = .ok (.istore 5, 2) := by decide +kernel
theorem dL_law_271 : decode cL_law 271 = .ok (.aload_n 2, 1) := by decide +kernel
theorem dL_law_272 : decode cL_law 272 = .ok (.invokevirtual 97, 3) := by decide +kernel
theorem dL_law_275 : decode cL_law 275 = .ok (.istore 6, 2) := by decide +kernel
theorem dL_law_277 : decode cL_law 277 = .ok (.aload_n 2, 1) := by decide +kernel
theorem dL_law_278 : decode cL_law 278 = .ok (.invokevirtual 87, 3) := by decide +kernel
theorem dL_law_281 : decode cL_law 281 = .ok (.iload 5, 2) := by decide +kernel
theorem dL_law_283 : decode cL_law 283 = .ok (.if_icmp .eq 5, 3) := by decide +kernel
theorem dL_law_286 : decode cL_law 286 = .ok (.iconst 0, 1) := by decide +kernel
theorem dL_law_287 : decode cL_law 287 = .ok (.ireturn, 1) := by decide +kernel
theorem dL_law_288 : decode cL_law 288 = .ok (.iload 5, 2) := by decide +kernel
theorem dL_law_290 : decode cL_law 290 = .ok (.ifCond .ne 15, 3) := by decide +kernel
theorem dL_law_293 : decode cL_law 293 = .ok (.aload_n 3, 1) := by decide +kernel
theorem dL_law_294 : decode cL_law 294 = .ok (.iconst 0, 1) := by decide +kernel
theorem dL_law_295 : decode cL_law 295 = .ok (.laload, 1) := by decide +kernel
theorem dL_law_296 : decode cL_law 296 = .ok (.iload 6, 2) := by decide +kernel
theorem dL_law_298 : decode cL_law 298 = .ok (.i2l, 1) := by decide +kernel
theorem dL_law_299 : decode cL_law 299 = .ok (.lcmp, 1) := by decide +kernel
theorem dL_law_300 : decode cL_law 300 = .ok (.ifCond .eq 5, 3) := by decide +kernel
theorem dL_law_303 : decode cL_law 303 = .ok (.iconst 0, 1) := by decide +kernel
theorem dL_law_304 : decode cL_law 304 = .ok (.ireturn, 1) := by decide +kernel
theorem dL_law_305 : decode cL_law 305 = .ok (.goto 923, 3) := by decide +kernel
theorem dL_law_308 : decode cL_law 308 = .ok (.aload_n 1, 1) := by decide +kernel
theorem dL_law_309 : decode cL_law 309 = .ok (.aload_n 0, 1) := by decide +kernel
theorem dL_law_310 : decode cL_law 310 = .ok (.iload 4, 2) := by decide +kernel
theorem dL_law_312 : decode cL_law 312 = .ok (.iconst 1, 1) := by decide +kernel
theorem dL_law_313 : decode cL_law 313 = .ok (.iadd, 1) := by decide +kernel
theorem dL_law_314 : decode cL_law 314 = .ok (.iaload, 1) := by decide +kernel
theorem dL_law_315 : decode cL_law 315 = .ok (.aload_n 0, 1) := by decide +kernel
theorem dL_law_316 : decode cL_law 316 = .ok (.iload 4, 2) := by decide +kernel
theorem dL_law_318 : decode cL_law 318 = .ok (.iconst 2, 1) := by decide +kernel
theorem dL_law_319 : decode cL_law 319 = .ok (.iadd, 1) := by decide +kernel
theorem dL_law_320 : decode cL_law 320 = .ok (.iaload, 1) := by decide +kernel
theorem dL_law_321 : decode cL_law 321 = .ok (.aload_n 3, 1) := by decide +kernel
theorem dL_law_322 : decode cL_law 322 = .ok (.invokestatic 98, 3) := by decide +kernel
theorem dL_law_325 : decode cL_law 325 = .ok (.istore 5, 2) := by decide +kernel
theorem dL_law_327 : decode cL_law 327 = .ok (.aload_n 2, 1) := by decide +kernel
theorem dL_law_328 : decode cL_law 328 = .ok (.aload_n 0, 1) := by decide +kernel
theorem dL_law_329 : decode cL_law 329 = .ok (.iload 4, 2) := by decide +kernel
theorem dL_law_331 : decode cL_law 331 = .ok (.iconst 1, 1) := by decide +kernel
theorem dL_law_332 : decode cL_law 332 = .ok (.iadd, 1) := by decide +kernel
theorem dL_law_333 : decode cL_law 333 = .ok (.iaload, 1) := by decide +kernel
theorem dL_law_334 : decode cL_law 334 = .ok (.aload_n 0, 1) := by decide +kernel
theorem dL_law_335 : decode cL_law 335 = .ok (.iload 4, 2) := by decide +kernel
theorem dL_law_337 : decode cL_law 337 = .ok (.iconst 2, 1) := by decide +kernel
theorem dL_law_338 : decode cL_law 338 = .ok (.iadd, 1) := by decide +kernel
theorem dL_law_339 : decode cL_law 339 = .ok (.iaload, 1) := by decide +kernel
theorem dL_law_340 : decode cL_law 340 = .ok (.invokevirtual 101, 3) := by decide +kernel
theorem dL_law_343 : decode cL_law 343 = .ok (.istore 6, 2) := by decide +kernel
theorem dL_law_345 : decode cL_law 345 = .ok (.aload_n 2, 1) := by decide +kernel
theorem dL_law_346 : decode cL_law 346 = .ok (.invokevirtual 87, 3) := by decide +kernel
theorem dL_law_349 : decode cL_law 349 = .ok (.iload 5, 2) := by decide +kernel
theorem dL_law_351 : decode cL_law 351 = .ok (.if_icmp .eq 5, 3) := by decide +kernel
theorem dL_law_354 : decode cL_law 354 = .ok (.iconst 0, 1) := by decide +kernel
theorem dL_law_355 : decode cL_law 355 = .ok (.ireturn, 1) := by decide +kernel
theorem dL_law_356 : decode cL_law 356 = .ok (.iload 5, 2) := by decide +kernel
theorem dL_law_358 : decode cL_law 358 = .ok (.ifCond .ne 15, 3) := by decide +kernel
theorem dL_law_361 : decode cL_law 361 = .ok (.aload_n 3, 1) := by decide +kernel
theorem dL_law_362 : decode cL_law 362 = .ok (.iconst 0, 1) := by decide +kernel
theorem dL_law_363 : decode cL_law 363 = .ok (.laload, 1) := by decide +kernel
theorem dL_law_364 : decode cL_law 364 = .ok (.iload 6, 2) := by decide +kernel
theorem dL_law_366 : decode cL_law 366 = .ok (.i2l, 1) := by decide +kernel
theorem dL_law_367 : decode cL_law 367 = .ok (.lcmp, 1) := by decide +kernel
theorem dL_law_368 : decode cL_law 368 = .ok (.ifCond .eq 5, 3) := by decide +kernel
theorem dL_law_371 : decode cL_law 371 = .ok (.iconst 0, 1) := by decide +kernel
theorem dL_law_372 : decode cL_law 372 = .ok (.ireturn, 1) := by decide +kernel
theorem dL_law_373 : decode cL_law 373 = .ok (.goto 855, 3) := by decide +kernel
theorem dL_law_376 : decode cL_law 376 = .ok (.aload_n 1, 1) := by decide +kernel
theorem dL_law_377 : decode cL_law 377 = .ok (.aload_n 0, 1) := by decide +kernel
theorem dL_law_378 : decode cL_law 378 = .ok (.iload 4, 2) := by decide +kernel
theorem dL_law_380 : decode cL_law 380 = .ok (.iconst 1, 1) := by decide +kernel
theorem dL_law_381 : decode cL_law 381 = .ok (.iadd, 1) := by decide +kernel
theorem dL_law_382 : decode cL_law 382 = .ok (.iaload, 1) := by decide +kernel
theorem dL_law_383 : decode cL_law 383 = .ok (.aload_n 3, 1) := by decide +kernel
theorem dL_law_384 : decode cL_law 384 = .ok (.invokestatic 102, 3) := by decide +kernel
theorem dL_law_387 : decode cL_law 387 = .ok (.istore 5, 2) := by decide +kernel
theorem dL_law_389 : decode cL_law 389 = .ok (.aload_n 2, 1) := by decide +kernel
theorem dL_law_390 : decode cL_law 390 = .ok (.aload_n 0, 1) := by decide +kernel
theorem dL_law_391 : decode cL_law 391 = .ok (.iload 4, 2) := by decide +kernel
theorem dL_law_393 : decode cL_law 393 = .ok (.iconst 1, 1) := by decide +kernel
theorem dL_law_394 : decode cL_law 394 = .ok (.iadd, 1) := by decide +kernel
theorem dL_law_395 : decode cL_law 395 = .ok (.iaload, 1) := by decide +kernel
theorem dL_law_396 : decode cL_law 396 = .ok (.invokevirtual 105, 3) := by decide +kernel
theorem dL_law_399 : decode cL_law 399 = .ok (.istore 6, 2) := by decide +kernel
theorem dL_law_401 : decode cL_law 401 = .ok (.aload_n 2, 1) := by decide +kernel
theorem dL_law_402 : decode cL_law 402 = .ok (.invokevirtual 87, 3) := by decide +kernel
theorem dL_law_405 : decode cL_law 405 = .ok (.iload 5, 2) := by decide +kernel
theorem dL_law_407 : decode cL_law 407 = .ok (.if_icmp .eq 5, 3) := by decide +kernel
theorem dL_law_410 : decode cL_law 410 = .ok (.iconst 0, 1) := by decide +kernel
theorem dL_law_411 : decode cL_law 411 = .ok (.ireturn, 1) := by decide +kernel
theorem dL_law_412 : decode cL_law 412 = .ok (.iload 5, 2) := by decide +kernel
theorem dL_law_414 : decode cL_law 414 = .ok (.ifCond .ne 15, 3) := by decide +kernel
theorem dL_law_417 : decode cL_law 417 = .ok (.aload_n 3, 1) := by decide +kernel
theorem dL_law_418 : decode cL_law 418 = .ok (.iconst 0, 1) := by decide +kernel
theorem dL_law_419 : decode cL_law 419 = .ok (.laload, 1) := by decide +kernel
theorem dL_law_420 : decode cL_law 420 = .ok (.iload 6, 2) := by decide +kernel
theorem dL_law_422 : decode cL_law 422 = .ok (.i2l, 1) := by decide +kernel
theorem dL_law_423 : decode cL_law 423 = .ok (.lcmp, 1) := by decide +kernel
theorem dL_law_424 : decode cL_law 424 = .ok (.ifCond .eq 5, 3) := by decide +kernel
theorem dL_law_427 : decode cL_law 427 = .ok (.iconst 0, 1) := by decide +kernel
theorem dL_law_428 : decode cL_law 428 = .ok (.ireturn, 1) := by decide +kernel
theorem dL_law_429 : decode cL_law 429 = .ok (.goto 799, 3) := by decide +kernel
theorem dL_law_432 : decode cL_law 432 = .ok (.aload_n 1, 1) := by decide +kernel
theorem dL_law_433 : decode cL_law 433 = .ok (.aload_n 3, 1) := by decide +kernel
theorem dL_law_434 : decode cL_law 434 = .ok (.invokestatic 106, 3) := by decide +kernel
theorem dL_law_437 : decode cL_law 437 = .ok (.istore 5, 2) := by decide +kernel
theorem dL_law_439 : decode cL_law 439 = .ok (.aload_n 2, 1) := by decide +kernel
theorem dL_law_440 : decode cL_law 440 = .ok (.invokevirtual 108, 3) := by decide +kernel
theorem dL_law_443 : decode cL_law 443 = .ok (.istore 6, 2) := by decide +kernel
theorem dL_law_445 : decode cL_law 445 = .ok (.aload_n 2, 1) := by decide +kernel
theorem dL_law_446 : decode cL_law 446 = .ok (.invokevirtual 87, 3) := by decide +kernel
theorem dL_law_449 : decode cL_law 449 = .ok (.iload 5, 2) := by decide +kernel
theorem dL_law_451 : decode cL_law 451 = .ok (.if_icmp .eq 5, 3) := by decide +kernel
theorem dL_law_454 : decode cL_law 454 = .ok (.iconst 0, 1) := by decide +kernel
theorem dL_law_455 : decode cL_law 455 = .ok (.ireturn, 1) := by decide +kernel
theorem dL_law_456 : decode cL_law 456 = .ok (.iload 5, 2) := by decide +kernel
theorem dL_law_458 : decode cL_law 458 = .ok (.ifCond .ne 15, 3) := by decide +kernel
theorem dL_law_461 : decode cL_law 461 = .ok (.aload_n 3, 1) := by decide +kernel
theorem dL_law_462 : decode cL_law 462 = .ok (.iconst 0, 1) := by decide +kernel
theorem dL_law_463 : decode cL_law 463 = .ok (.laload, 1) := by decide +kernel
theorem dL_law_464 : decode cL_law 464 = .ok (.iload 6, 2) := by decide +kernel
theorem dL_law_466 : decode cL_law 466 = .ok (.i2l, 1) := by decide +kernel
theorem dL_law_467 : decode cL_law 467 = .ok (.lcmp, 1) := by decide +kernel
theorem dL_law_468 : decode cL_law 468 = .ok (.ifCond .eq 5, 3) := by decide +kernel
theorem dL_law_471 : decode cL_law 471 = .ok (.iconst 0, 1) := by decide +kernel
theorem dL_law_472 : decode cL_law 472 = .ok (.ireturn, 1) := by decide +kernel
theorem dL_law_473 : decode cL_law 473 = .ok (.goto 755, 3) := by decide +kernel
theorem dL_law_476 : decode cL_law 476 = .ok (.aload_n 1, 1) := by decide +kernel
theorem dL_law_477 : decode cL_law 477 = .ok (.aload_n 0, 1) := by decide +kernel
theorem dL_law_478 : decode cL_law 478 = .ok (.iload 4, 2) := by decide +kernel
theorem dL_law_480 : decode cL_law 480 = .ok (.iconst 1, 1) := by decide +kernel
theorem dL_law_481 : decode cL_law 481 = .ok (.iadd, 1) := by decide +kernel
theorem dL_law_482 : decode cL_law 482 = .ok (.iaload, 1) := by decide +kernel
theorem dL_law_483 : decode cL_law 483 = .ok (.invokevirtual 109, 3) := by decide +kernel
theorem dL_law_486 : decode cL_law 486 = .ok (.aload_n 2, 1) := by decide +kernel
theorem dL_law_487 : decode cL_law 487 = .ok (.aload_n 0, 1) := by decide +kernel
theorem dL_law_488 : decode cL_law 488 = .ok (.iload 4, 2) := by decide +kernel
theorem dL_law_490 : decode cL_law 490 = .ok (.iconst 1, 1) := by decide +kernel
theorem dL_law_491 : decode cL_law 491 = .ok (.iadd, 1) := by decide +kernel
theorem dL_law_492 : decode cL_law 492 = .ok (.iaload, 1) := by decide +kernel
theorem dL_law_493 : decode cL_law 493 = .ok (.invokevirtual 112, 3) := by decide +kernel
theorem dL_law_496 : decode cL_law 496 = .ok (.if_icmp .eq 732, 3) := by decide +kernel
theorem dL_law_499 : decode cL_law 499 = .ok (.iconst 0, 1) := by decide +kernel
theorem dL_law_500 : decode cL_law 500 = .ok (.ireturn, 1) := by decide +kernel
theorem dL_law_501 : decode cL_law 501 = .ok (.aload_n 1, 1) := by decide +kernel
theorem dL_law_502 : decode cL_law 502 = .ok (.invokevirtual 113, 3) := by decide +kernel
theorem dL_law_505 : decode cL_law 505 = .ok (.aload_n 2, 1) := by decide +kernel
theorem dL_law_506 : decode cL_law 506 = .ok (.invokevirtual 116, 3) := by decide +kernel
theorem dL_law_509 : decode cL_law 509 = .ok (.if_icmp .eq 719, 3) := by decide +kernel
theorem dL_law_512 : decode cL_law 512 = .ok (.iconst 0, 1) := by decide +kernel
theorem dL_law_513 : decode cL_law 513 = .ok (.ireturn, 1) := by decide +kernel
theorem dL_law_514 : decode cL_law 514 = .ok (.aload_n 1, 1) := by decide +kernel
theorem dL_law_515 : decode cL_law 515 = .ok (.aload_n 0, 1) := by decide +kernel
theorem dL_law_516 : decode cL_law 516 = .ok (.iload 4, 2) := by decide +kernel
theorem dL_law_518 : decode cL_law 518 = .ok (.iconst 1, 1) := by decide +kernel
theorem dL_law_519 : decode cL_law 519 = .ok (.iadd, 1) := by decide +kernel
theorem dL_law_520 : decode cL_law 520 = .ok (.iaload, 1) := by decide +kernel
theorem dL_law_521 : decode cL_law 521 = .ok (.aload_n 0, 1) := by decide +kernel
theorem dL_law_522 : decode cL_law 522 = .ok (.iload 4, 2) := by decide +kernel
theorem dL_law_524 : decode cL_law 524 = .ok (.iconst 2, 1) := by decide +kernel
theorem dL_law_525 : decode cL_law 525 = .ok (.iadd, 1) := by decide +kernel
theorem dL_law_526 : decode cL_law 526 = .ok (.iaload, 1) := by decide +kernel
theorem dL_law_527 : decode cL_law 527 = .ok (.aload_n 3, 1) := by decide +kernel
theorem dL_law_528 : decode cL_law 528 = .ok (.invokestatic 117, 3) := by decide +kernel
theorem dL_law_531 : decode cL_law 531 = .ok (.istore 5, 2) := by decide +kernel
theorem dL_law_533 : decode cL_law 533 = .ok (.aload_n 2, 1) := by decide +kernel
theorem dL_law_534 : decode cL_law 534 = .ok (.aload_n 0, 1) := by decide +kernel
theorem dL_law_535 : decode cL_law 535 = .ok (.iload 4, 2) := by decide +kernel
theorem dL_law_537 : decode cL_law 537 = .ok (.iconst 1, 1) := by decide +kernel
theorem dL_law_538 : decode cL_law 538 = .ok (.iadd, 1) := by decide +kernel
theorem dL_law_539 : decode cL_law 539 = .ok (.iaload, 1) := by decide +kernel
theorem dL_law_540 : decode cL_law 540 = .ok (.aload_n 0, 1) := by decide +kernel
theorem dL_law_541 : decode cL_law 541 = .ok (.iload 4, 2) := by decide +kernel
theorem dL_law_543 : decode cL_law 543 = .ok (.iconst 2, 1) := by decide +kernel
theorem dL_law_544 : decode cL_law 544 = .ok (.iadd, 1) := by decide +kernel
theorem dL_law_545 : decode cL_law 545 = .ok (.iaload, 1) := by decide +kernel
theorem dL_law_546 : decode cL_law 546 = .ok (.invokevirtual 119, 3) := by decide +kernel
theorem dL_law_549 : decode cL_law 549 = .ok (.istore 6, 2) := by decide +kernel
theorem dL_law_551 : decode cL_law 551 = .ok (.aload_n 2, 1) := by decide +kernel
theorem dL_law_552 : decode cL_law 552 = .ok (.invokevirtual 87, 3) := by decide +kernel
theorem dL_law_555 : decode cL_law 555 = .ok (.iload 5, 2) := by decide +kernel
theorem dL_law_557 : decode cL_law 557 = .ok (.if_icmp .eq 5, 3) := by decide +kernel
theorem dL_law_560 : decode cL_law 560 = .ok (.iconst 0, 1) := by decide +kernel
theorem dL_law_561 : decode cL_law 561 = .ok (.ireturn, 1) := by decide +kernel
theorem dL_law_562 : decode cL_law 562 = .ok (.iload 5, 2) := by decide +kernel
theorem dL_law_564 : decode cL_law 564 = .ok (.ifCond .ne 15, 3) := by decide +kernel
theorem dL_law_567 : decode cL_law 567 = .ok (.aload_n 3, 1) := by decide +kernel
theorem dL_law_568 : decode cL_law 568 = .ok (.iconst 0, 1) := by decide +kernel
theorem dL_law_569 : decode cL_law 569 = .ok (.laload, 1) := by decide +kernel
theorem dL_law_570 : decode cL_law 570 = .ok (.iload 6, 2) := by decide +kernel
theorem dL_law_572 : decode cL_law 572 = .ok (.i2l, 1) := by decide +kernel
theorem dL_law_573 : decode cL_law 573 = .ok (.lcmp, 1) := by decide +kernel
theorem dL_law_574 : decode cL_law 574 = .ok (.ifCond .eq 5, 3) := by decide +kernel
theorem dL_law_577 : decode cL_law 577 = .ok (.iconst 0, 1) := by decide +kernel
theorem dL_law_578 : decode cL_law 578 = .ok (.ireturn, 1) := by decide +kernel
theorem dL_law_579 : decode cL_law 579 = .ok (.goto 649, 3) := by decide +kernel
theorem dL_law_582 : decode cL_law 582 = .ok (.aload_n 1, 1) := by decide +kernel
theorem dL_law_583 : decode cL_law 583 = .ok (.aload_n 0, 1) := by decide +kernel
theorem dL_law_584 : decode cL_law 584 = .ok (.iload 4, 2) := by decide +kernel
theorem dL_law_586 : decode cL_law 586 = .ok (.iconst 1, 1) := by decide +kernel
theorem dL_law_587 : decode cL_law 587 = .ok (.iadd, 1) := by decide +kernel
theorem dL_law_588 : decode cL_law 588 = .ok (.iaload, 1) := by decide +kernel
theorem dL_law_589 : decode cL_law 589 = .ok (.aload_n 3, 1) := by decide +kernel
theorem dL_law_590 : decode cL_law 590 = .ok (.invokestatic 120, 3) := by decide +kernel
theorem dL_law_593 : decode cL_law 593 = .ok (.istore 5, 2) := by decide +kernel
theorem dL_law_595 : decode cL_law 595 = .ok (.aload_n 2, 1) := by decide +kernel
theorem dL_law_596 : decode cL_law 596 = .ok (.aload_n 0, 1) := by decide +kernel
theorem dL_law_597 : decode cL_law 597 = .ok (.iload 4, 2) := by decide +kernel
theorem dL_law_599 : decode cL_law 599 = .ok (.iconst 1, 1) := by decide +kernel
theorem dL_law_600 : decode cL_law 600 = .ok (.iadd, 1) := by decide +kernel
theorem dL_law_601 : decode cL_law 601 = .ok (.iaload, 1) := by decide +kernel
theorem dL_law_602 : decode cL_law 602 = .ok (.invokevirtual 122, 3) := by decide +kernel
theorem dL_law_605 : decode cL_law 605 = .ok (.istore 6, 2) := by decide +kernel
theorem dL_law_607 : decode cL_law 607 = .ok (.aload_n 2, 1) := by decide +kernel
theorem dL_law_608 : decode cL_law 608 = .ok (.invokevirtual 87, 3) := by decide +kernel
theorem dL_law_611 : decode cL_law 611 = .ok (.iload 5, 2) := by decide +kernel
theorem dL_law_613 : decode cL_law 613 = .ok (.if_icmp .eq 5, 3) := by decide +kernel
theorem dL_law_616 : decode cL_law 616 = .ok (.iconst 0, 1) := by decide +kernel
theorem dL_law_617 : decode cL_law 617 = .ok (.ireturn, 1) := by decide +kernel
theorem dL_law_618 : decode cL_law 618 = .ok (.iload 5, 2) := by decide +kernel
theorem dL_law_620 : decode cL_law 620 = .ok (.ifCond .ne 15, 3) := by decide +kernel
theorem dL_law_623 : decode cL_law 623 = .ok (.aload_n 3, 1) := by decide +kernel
theorem dL_law_624 : decode cL_law 624 = .ok (.iconst 0, 1) := by decide +kernel
theorem dL_law_625 : decode cL_law 625 = .ok (.laload, 1) := by decide +kernel
theorem dL_law_626 : decode cL_law 626 = .ok (.iload 6, 2) := by decide +kernel
theorem dL_law_628 : decode cL_law 628 = .ok (.i2l, 1) := by decide +kernel
theorem dL_law_629 : decode cL_law 629 = .ok (.lcmp, 1) := by decide +kernel
theorem dL_law_630 : decode cL_law 630 = .ok (.ifCond .eq 5, 3) := by decide +kernel
theorem dL_law_633 : decode cL_law 633 = .ok (.iconst 0, 1) := by decide +kernel
theorem dL_law_634 : decode cL_law 634 = .ok (.ireturn, 1) := by decide +kernel
theorem dL_law_635 : decode cL_law 635 = .ok (.goto 593, 3) := by decide +kernel
theorem dL_law_638 : decode cL_law 638 = .ok (.aload_n 1, 1) := by decide +kernel
theorem dL_law_639 : decode cL_law 639 = .ok (.aload_n 3, 1) := by decide +kernel
theorem dL_law_640 : decode cL_law 640 = .ok (.invokestatic 123, 3) := by decide +kernel
theorem dL_law_643 : decode cL_law 643 = .ok (.istore 5, 2) := by decide +kernel
theorem dL_law_645 : decode cL_law 645 = .ok (.aload_n 2, 1) := by decide +kernel
theorem dL_law_646 : decode cL_law 646 = .ok (.invokevirtual 125, 3) := by decide +kernel
theorem dL_law_649 : decode cL_law 649 = .ok (.istore 6, 2) := by decide +kernel
theorem dL_law_651 : decode cL_law 651 = .ok (.aload_n 2, 1) := by decide +kernel
theorem dL_law_652 : decode cL_law 652 = .ok (.invokevirtual 87, 3) := by decide +kernel
theorem dL_law_655 : decode cL_law 655 = .ok (.iload 5, 2) := by decide +kernel
theorem dL_law_657 : decode cL_law 657 = .ok (.if_icmp .eq 5, 3) := by decide +kernel
theorem dL_law_660 : decode cL_law 660 = .ok (.iconst 0, 1) := by decide +kernel
theorem dL_law_661 : decode cL_law 661 = .ok (.ireturn, 1) := by decide +kernel
theorem dL_law_662 : decode cL_law 662 = .ok (.iload 5, 2) := by decide +kernel
theorem dL_law_664 : decode cL_law 664 = .ok (.ifCond .ne 15, 3) := by decide +kernel
theorem dL_law_667 : decode cL_law 667 = .ok (.aload_n 3, 1) := by decide +kernel
theorem dL_law_668 : decode cL_law 668 = .ok (.iconst 0, 1) := by decide +kernel
theorem dL_law_669 : decode cL_law 669 = .ok (.laload, 1) := by decide +kernel
theorem dL_law_670 : decode cL_law 670 = .ok (.iload 6, 2) := by decide +kernel
theorem dL_law_672 : decode cL_law 672 = .ok (.i2l, 1) := by decide +kernel
theorem dL_law_673 : decode cL_law 673 = .ok (.lcmp, 1) := by decide +kernel
theorem dL_law_674 : decode cL_law 674 = .ok (.ifCond .eq 5, 3) := by decide +kernel
theorem dL_law_677 : decode cL_law 677 = .ok (.iconst 0, 1) := by decide +kernel
theorem dL_law_678 : decode cL_law 678 = .ok (.ireturn, 1) := by decide +kernel
theorem dL_law_679 : decode cL_law 679 = .ok (.goto 549, 3) := by decide +kernel
theorem dL_law_682 : decode cL_law 682 = .ok (.aload_n 1, 1) := by decide +kernel
theorem dL_law_683 : decode cL_law 683 = .ok (.aload_n 0, 1) := by decide +kernel
theorem dL_law_684 : decode cL_law 684 = .ok (.iload 4, 2) := by decide +kernel
theorem dL_law_686 : decode cL_law 686 = .ok (.iconst 1, 1) := by decide +kernel
theorem dL_law_687 : decode cL_law 687 = .ok (.iadd, 1) := by decide +kernel
theorem dL_law_688 : decode cL_law 688 = .ok (.iaload, 1) := by decide +kernel
theorem dL_law_689 : decode cL_law 689 = .ok (.aload_n 0, 1) := by decide +kernel
theorem dL_law_690 : decode cL_law 690 = .ok (.iload 4, 2) := by decide +kernel
theorem dL_law_692 : decode cL_law 692 = .ok (.iconst 2, 1) := by decide +kernel
theorem dL_law_693 : decode cL_law 693 = .ok (.iadd, 1) := by decide +kernel
theorem dL_law_694 : decode cL_law 694 = .ok (.iaload, 1) := by decide +kernel
theorem dL_law_695 : decode cL_law 695 = .ok (.aload_n 0, 1) := by decide +kernel
theorem dL_law_696 : decode cL_law 696 = .ok (.iload 4, 2) := by decide +kernel
theorem dL_law_698 : decode cL_law 698 = .ok (.iconst 3, 1) := by decide +kernel
theorem dL_law_699 : decode cL_law 699 = .ok (.iadd, 1) := by decide +kernel
theorem dL_law_700 : decode cL_law 700 = .ok (.iaload, 1) := by decide +kernel
theorem dL_law_701 : decode cL_law 701 = .ok (.aload_n 3, 1) := by decide +kernel
theorem dL_law_702 : decode cL_law 702 = .ok (.invokestatic 126, 3) := by decide +kernel
theorem dL_law_705 : decode cL_law 705 = .ok (.istore 5, 2) := by decide +kernel
theorem dL_law_707 : decode cL_law 707 = .ok (.aload_n 2, 1) := by decide +kernel
theorem dL_law_708 : decode cL_law 708 = .ok (.aload_n 0, 1) := by decide +kernel
theorem dL_law_709 : decode cL_law 709 = .ok (.iload 4, 2) := by decide +kernel
theorem dL_law_711 : decode cL_law 711 = .ok (.iconst 1, 1) := by decide +kernel
theorem dL_law_712 : decode cL_law 712 = .ok (.iadd, 1) := by decide +kernel
theorem dL_law_713 : decode cL_law 713 = .ok (.iaload, 1) := by decide +kernel
theorem dL_law_714 : decode cL_law 714 = .ok (.aload_n 0, 1) := by decide +kernel
theorem dL_law_715 : decode cL_law 715 = .ok (.iload 4, 2) := by decide +kernel
theorem dL_law_717 : decode cL_law 717 = .ok (.iconst 2, 1) := by decide +kernel
theorem dL_law_718 : decode cL_law 718 = .ok (.iadd, 1) := by decide +kernel
theorem dL_law_719 : decode cL_law 719 = .ok (.iaload, 1) := by decide +kernel
theorem dL_law_720 : decode cL_law 720 = .ok (.aload_n 0, 1) := by decide +kernel
theorem dL_law_721 : decode cL_law 721 = .ok (.iload 4, 2) := by decide +kernel
theorem dL_law_723 : decode cL_law 723 = .ok (.iconst 3, 1) := by decide +kernel
theorem dL_law_724 : decode cL_law 724 = .ok (.iadd, 1) := by decide +kernel
theorem dL_law_725 : decode cL_law 725 = .ok (.iaload, 1) := by decide +kernel
theorem dL_law_726 : decode cL_law 726 = .ok (.invokevirtual 129, 3) := by decide +kernel
theorem dL_law_729 : decode cL_law 729 = .ok (.istore 6, 2) := by decide +kernel
theorem dL_law_731 : decode cL_law 731 = .ok (.aload_n 2, 1) := by decide +kernel
theorem dL_law_732 : decode cL_law 732 = .ok (.invokevirtual 87, 3) := by decide +kernel
theorem dL_law_735 : decode cL_law 735 = .ok (.iload 5, 2) := by decide +kernel
theorem dL_law_737 : decode cL_law 737 = .ok (.if_icmp .eq 5, 3) := by decide +kernel
theorem dL_law_740 : decode cL_law 740 = .ok (.iconst 0, 1) := by decide +kernel
theorem dL_law_741 : decode cL_law 741 = .ok (.ireturn, 1) := by decide +kernel
theorem dL_law_742 : decode cL_law 742 = .ok (.iload 5, 2) := by decide +kernel
theorem dL_law_744 : decode cL_law 744 = .ok (.ifCond .ne 22, 3) := by decide +kernel
theorem dL_law_747 : decode cL_law 747 = .ok (.aload_n 3, 1) := by decide +kernel
theorem dL_law_748 : decode cL_law 748 = .ok (.iconst 0, 1) := by decide +kernel
theorem dL_law_749 : decode cL_law 749 = .ok (.laload, 1) := by decide +kernel
theorem dL_law_750 : decode cL_law 750 = .ok (.iload 6, 2) := by decide +kernel
theorem dL_law_752 : decode cL_law 752 = .ok (.ifCond .eq 7, 3) := by decide +kernel
theorem dL_law_755 : decode cL_law 755 = .ok (.lconst 1, 1) := by decide +kernel
theorem dL_law_756 : decode cL_law 756 = .ok (.goto 4, 3) := by decide +kernel
theorem dL_law_759 : decode cL_law 759 = .ok (.lconst 0, 1) := by decide +kernel
theorem dL_law_760 : decode cL_law 760 = .ok (.lcmp, 1) := by decide +kernel
theorem dL_law_761 : decode cL_law 761 = .ok (.ifCond .eq 5, 3) := by decide +kernel
theorem dL_law_764 : decode cL_law 764 = .ok (.iconst 0, 1) := by decide +kernel
theorem dL_law_765 : decode cL_law 765 = .ok (.ireturn, 1) := by decide +kernel
theorem dL_law_766 : decode cL_law 766 = .ok (.goto 462, 3) := by decide +kernel
theorem dL_law_769 : decode cL_law 769 = .ok (.aload_n 1, 1) := by decide +kernel
theorem dL_law_770 : decode cL_law 770 = .ok (.aload_n 0, 1) := by decide +kernel
theorem dL_law_771 : decode cL_law 771 = .ok (.iload 4, 2) := by decide +kernel
theorem dL_law_773 : decode cL_law 773 = .ok (.iconst 1, 1) := by decide +kernel
theorem dL_law_774 : decode cL_law 774 = .ok (.iadd, 1) := by decide +kernel
theorem dL_law_775 : decode cL_law 775 = .ok (.iaload, 1) := by decide +kernel
theorem dL_law_776 : decode cL_law 776 = .ok (.aload_n 0, 1) := by decide +kernel
theorem dL_law_777 : decode cL_law 777 = .ok (.iload 4, 2) := by decide +kernel
theorem dL_law_779 : decode cL_law 779 = .ok (.iconst 2, 1) := by decide +kernel
theorem dL_law_780 : decode cL_law 780 = .ok (.iadd, 1) := by decide +kernel
theorem dL_law_781 : decode cL_law 781 = .ok (.iaload, 1) := by decide +kernel
theorem dL_law_782 : decode cL_law 782 = .ok (.aload_n 3, 1) := by decide +kernel
theorem dL_law_783 : decode cL_law 783 = .ok (.invokestatic 130, 3) := by decide +kernel
theorem dL_law_786 : decode cL_law 786 = .ok (.istore 5, 2) := by decide +kernel
theorem dL_law_788 : decode cL_law 788 = .ok (.aload_n 2, 1) := by decide +kernel
theorem dL_law_789 : decode cL_law 789 = .ok (.aload_n 0, 1) := by decide +kernel
theorem dL_law_790 : decode cL_law 790 = .ok (.iload 4, 2) := by decide +kernel
theorem dL_law_792 : decode cL_law 792 = .ok (.iconst 1, 1) := by decide +kernel
theorem dL_law_793 : decode cL_law 793 = .ok (.iadd, 1) := by decide +kernel
theorem dL_law_794 : decode cL_law 794 = .ok (.iaload, 1) := by decide +kernel
theorem dL_law_795 : decode cL_law 795 = .ok (.aload_n 0, 1) := by decide +kernel
theorem dL_law_796 : decode cL_law 796 = .ok (.iload 4, 2) := by decide +kernel
theorem dL_law_798 : decode cL_law 798 = .ok (.iconst 2, 1) := by decide +kernel
theorem dL_law_799 : decode cL_law 799 = .ok (.iadd, 1) := by decide +kernel
theorem dL_law_800 : decode cL_law 800 = .ok (.iaload, 1) := by decide +kernel
theorem dL_law_801 : decode cL_law 801 = .ok (.invokevirtual 132, 3) := by decide +kernel
theorem dL_law_804 : decode cL_law 804 = .ok (.istore 6, 2) := by decide +kernel
theorem dL_law_806 : decode cL_law 806 = .ok (.aload_n 2, 1) := by decide +kernel
theorem dL_law_807 : decode cL_law 807 = .ok (.invokevirtual 87, 3) := by decide +kernel
theorem dL_law_810 : decode cL_law 810 = .ok (.iload 5, 2) := by decide +kernel
theorem dL_law_812 : decode cL_law 812 = .ok (.if_icmp .eq 5, 3) := by decide +kernel
theorem dL_law_815 : decode cL_law 815 = .ok (.iconst 0, 1) := by decide +kernel
theorem dL_law_816 : decode cL_law 816 = .ok (.ireturn, 1) := by decide +kernel
theorem dL_law_817 : decode cL_law 817 = .ok (.iload 5, 2) := by decide +kernel
theorem dL_law_819 : decode cL_law 819 = .ok (.ifCond .ne 15, 3) := by decide +kernel
theorem dL_law_822 : decode cL_law 822 = .ok (.aload_n 3, 1) := by decide +kernel
theorem dL_law_823 : decode cL_law 823 = .ok (.iconst 0, 1) := by decide +kernel
theorem dL_law_824 : decode cL_law 824 = .ok (.laload, 1) := by decide +kernel
theorem dL_law_825 : decode cL_law 825 = .ok (.iload 6, 2) := by decide +kernel
theorem dL_law_827 : decode cL_law 827 = .ok (.i2l, 1) := by decide +kernel
theorem dL_law_828 : decode cL_law 828 = .ok (.lcmp, 1) := by decide +kernel
theorem dL_law_829 : decode cL_law 829 = .ok (.ifCond .eq 5, 3) := by decide +kernel
theorem dL_law_832 : decode cL_law 832 = .ok (.iconst 0, 1) := by decide +kernel
theorem dL_law_833 : decode cL_law 833 = .ok (.ireturn, 1) := by decide +kernel
theorem dL_law_834 : decode cL_law 834 = .ok (.goto 394, 3) := by decide +kernel
theorem dL_law_837 : decode cL_law 837 = .ok (.aload_n 1, 1) := by decide +kernel
theorem dL_law_838 : decode cL_law 838 = .ok (.aload_n 0, 1) := by decide +kernel
theorem dL_law_839 : decode cL_law 839 = .ok (.iload 4, 2) := by decide +kernel
theorem dL_law_841 : decode cL_law 841 = .ok (.iconst 1, 1) := by decide +kernel
theorem dL_law_842 : decode cL_law 842 = .ok (.iadd, 1) := by decide +kernel
theorem dL_law_843 : decode cL_law 843 = .ok (.iaload, 1) := by decide +kernel
theorem dL_law_844 : decode cL_law 844 = .ok (.aload_n 3, 1) := by decide +kernel
theorem dL_law_845 : decode cL_law 845 = .ok (.invokestatic 133, 3) := by decide +kernel
theorem dL_law_848 : decode cL_law 848 = .ok (.istore 5, 2) := by decide +kernel
theorem dL_law_850 : decode cL_law 850 = .ok (.aload_n 2, 1) := by decide +kernel
theorem dL_law_851 : decode cL_law 851 = .ok (.aload_n 0, 1) := by decide +kernel
theorem dL_law_852 : decode cL_law 852 = .ok (.iload 4, 2) := by decide +kernel
theorem dL_law_854 : decode cL_law 854 = .ok (.iconst 1, 1) := by decide +kernel
theorem dL_law_855 : decode cL_law 855 = .ok (.iadd, 1) := by decide +kernel
theorem dL_law_856 : decode cL_law 856 = .ok (.iaload, 1) := by decide +kernel
theorem dL_law_857 : decode cL_law 857 = .ok (.invokevirtual 135, 3) := by decide +kernel
theorem dL_law_860 : decode cL_law 860 = .ok (.istore 6, 2) := by decide +kernel
theorem dL_law_862 : decode cL_law 862 = .ok (.aload_n 2, 1) := by decide +kernel
theorem dL_law_863 : decode cL_law 863 = .ok (.invokevirtual 87, 3) := by decide +kernel
theorem dL_law_866 : decode cL_law 866 = .ok (.iload 5, 2) := by decide +kernel
theorem dL_law_868 : decode cL_law 868 = .ok (.if_icmp .eq 5, 3) := by decide +kernel
theorem dL_law_871 : decode cL_law 871 = .ok (.iconst 0, 1) := by decide +kernel
theorem dL_law_872 : decode cL_law 872 = .ok (.ireturn, 1) := by decide +kernel
theorem dL_law_873 : decode cL_law 873 = .ok (.iload 5, 2) := by decide +kernel
theorem dL_law_875 : decode cL_law 875 = .ok (.ifCond .ne 15, 3) := by decide +kernel
theorem dL_law_878 : decode cL_law 878 = .ok (.aload_n 3, 1) := by decide +kernel
theorem dL_law_879 : decode cL_law 879 = .ok (.iconst 0, 1) := by decide +kernel
theorem dL_law_880 : decode cL_law 880 = .ok (.laload, 1) := by decide +kernel
theorem dL_law_881 : decode cL_law 881 = .ok (.iload 6, 2) := by decide +kernel
theorem dL_law_883 : decode cL_law 883 = .ok (.i2l, 1) := by decide +kernel
theorem dL_law_884 : decode cL_law 884 = .ok (.lcmp, 1) := by decide +kernel
theorem dL_law_885 : decode cL_law 885 = .ok (.ifCond .eq 5, 3) := by decide +kernel
theorem dL_law_888 : decode cL_law 888 = .ok (.iconst 0, 1) := by decide +kernel
theorem dL_law_889 : decode cL_law 889 = .ok (.ireturn, 1) := by decide +kernel
theorem dL_law_890 : decode cL_law 890 = .ok (.goto 338, 3) := by decide +kernel
theorem dL_law_893 : decode cL_law 893 = .ok (.aload_n 1, 1) := by decide +kernel
theorem dL_law_894 : decode cL_law 894 = .ok (.aload_n 0, 1) := by decide +kernel
theorem dL_law_895 : decode cL_law 895 = .ok (.iload 4, 2) := by decide +kernel
theorem dL_law_897 : decode cL_law 897 = .ok (.iconst 1, 1) := by decide +kernel
theorem dL_law_898 : decode cL_law 898 = .ok (.iadd, 1) := by decide +kernel
theorem dL_law_899 : decode cL_law 899 = .ok (.iaload, 1) := by decide +kernel
theorem dL_law_900 : decode cL_law 900 = .ok (.aload_n 0, 1) := by decide +kernel
theorem dL_law_901 : decode cL_law 901 = .ok (.iload 4, 2) := by decide +kernel
theorem dL_law_903 : decode cL_law 903 = .ok (.iconst 2, 1) := by decide +kernel
theorem dL_law_904 : decode cL_law 904 = .ok (.iadd, 1) := by decide +kernel
theorem dL_law_905 : decode cL_law 905 = .ok (.iaload, 1) := by decide +kernel
theorem dL_law_906 : decode cL_law 906 = .ok (.aload_n 3, 1) := by decide +kernel
theorem dL_law_907 : decode cL_law 907 = .ok (.invokestatic 136, 3) := by decide +kernel
theorem dL_law_910 : decode cL_law 910 = .ok (.istore 5, 2) := by decide +kernel
theorem dL_law_912 : decode cL_law 912 = .ok (.aload_n 2, 1) := by decide +kernel
theorem dL_law_913 : decode cL_law 913 = .ok (.aload_n 0, 1) := by decide +kernel
theorem dL_law_914 : decode cL_law 914 = .ok (.iload 4, 2) := by decide +kernel
theorem dL_law_916 : decode cL_law 916 = .ok (.iconst 1, 1) := by decide +kernel
theorem dL_law_917 : decode cL_law 917 = .ok (.iadd, 1) := by decide +kernel
theorem dL_law_918 : decode cL_law 918 = .ok (.iaload, 1) := by decide +kernel
theorem dL_law_919 : decode cL_law 919 = .ok (.aload_n 0, 1) := by decide +kernel
theorem dL_law_920 : decode cL_law 920 = .ok (.iload 4, 2) := by decide +kernel
theorem dL_law_922 : decode cL_law 922 = .ok (.iconst 2, 1) := by decide +kernel
theorem dL_law_923 : decode cL_law 923 = .ok (.iadd, 1) := by decide +kernel
theorem dL_law_924 : decode cL_law 924 = .ok (.iaload, 1) := by decide +kernel
theorem dL_law_925 : decode cL_law 925 = .ok (.invokevirtual 138, 3) := by decide +kernel
theorem dL_law_928 : decode cL_law 928 = .ok (.istore 6, 2) := by decide +kernel
theorem dL_law_930 : decode cL_law 930 = .ok (.aload_n 2, 1) := by decide +kernel
theorem dL_law_931 : decode cL_law 931 = .ok (.invokevirtual 87, 3) := by decide +kernel
theorem dL_law_934 : decode cL_law 934 = .ok (.iload 5, 2) := by decide +kernel
theorem dL_law_936 : decode cL_law 936 = .ok (.if_icmp .eq 5, 3) := by decide +kernel
theorem dL_law_939 : decode cL_law 939 = .ok (.iconst 0, 1) := by decide +kernel
theorem dL_law_940 : decode cL_law 940 = .ok (.ireturn, 1) := by decide +kernel
theorem dL_law_941 : decode cL_law 941 = .ok (.iload 5, 2) := by decide +kernel
theorem dL_law_943 : decode cL_law 943 = .ok (.ifCond .ne 15, 3) := by decide +kernel
theorem dL_law_946 : decode cL_law 946 = .ok (.aload_n 3, 1) := by decide +kernel
theorem dL_law_947 : decode cL_law 947 = .ok (.iconst 0, 1) := by decide +kernel
theorem dL_law_948 : decode cL_law 948 = .ok (.laload, 1) := by decide +kernel
theorem dL_law_949 : decode cL_law 949 = .ok (.iload 6, 2) := by decide +kernel
theorem dL_law_951 : decode cL_law 951 = .ok (.i2l, 1) := by decide +kernel
theorem dL_law_952 : decode cL_law 952 = .ok (.lcmp, 1) := by decide +kernel
theorem dL_law_953 : decode cL_law 953 = .ok (.ifCond .eq 5, 3) := by decide +kernel
theorem dL_law_956 : decode cL_law 956 = .ok (.iconst 0, 1) := by decide +kernel
theorem dL_law_957 : decode cL_law 957 = .ok (.ireturn, 1) := by decide +kernel
theorem dL_law_958 : decode cL_law 958 = .ok (.goto 270, 3) := by decide +kernel
theorem dL_law_961 : decode cL_law 961 = .ok (.aload_n 1, 1) := by decide +kernel
theorem dL_law_962 : decode cL_law 962 = .ok (.aload_n 0, 1) := by decide +kernel
theorem dL_law_963 : decode cL_law 963 = .ok (.iload 4, 2) := by decide +kernel
theorem dL_law_965 : decode cL_law 965 = .ok (.iconst 1, 1) := by decide +kernel
theorem dL_law_966 : decode cL_law 966 = .ok (.iadd, 1) := by decide +kernel
theorem dL_law_967 : decode cL_law 967 = .ok (.iaload, 1) := by decide +kernel
theorem dL_law_968 : decode cL_law 968 = .ok (.aload_n 0, 1) := by decide +kernel
theorem dL_law_969 : decode cL_law 969 = .ok (.iload 4, 2) := by decide +kernel
theorem dL_law_971 : decode cL_law 971 = .ok (.iconst 2, 1) := by decide +kernel
theorem dL_law_972 : decode cL_law 972 = .ok (.iadd, 1) := by decide +kernel
theorem dL_law_973 : decode cL_law 973 = .ok (.iaload, 1) := by decide +kernel
theorem dL_law_974 : decode cL_law 974 = .ok (.aload_n 0, 1) := by decide +kernel
theorem dL_law_975 : decode cL_law 975 = .ok (.iload 4, 2) := by decide +kernel
theorem dL_law_977 : decode cL_law 977 = .ok (.iconst 3, 1) := by decide +kernel
theorem dL_law_978 : decode cL_law 978 = .ok (.iadd, 1) := by decide +kernel
theorem dL_law_979 : decode cL_law 979 = .ok (.iaload, 1) := by decide +kernel
theorem dL_law_980 : decode cL_law 980 = .ok (.aload_n 3, 1) := by decide +kernel
theorem dL_law_981 : decode cL_law 981 = .ok (.invokestatic 139, 3) := by decide +kernel
theorem dL_law_984 : decode cL_law 984 = .ok (.istore 5, 2) := by decide +kernel
theorem dL_law_986 : decode cL_law 986 = .ok (.aload_n 2, 1) := by decide +kernel
theorem dL_law_987 : decode cL_law 987 = .ok (.aload_n 0, 1) := by decide +kernel
theorem dL_law_988 : decode cL_law 988 = .ok (.iload 4, 2) := by decide +kernel
theorem dL_law_990 : decode cL_law 990 = .ok (.iconst 1, 1) := by decide +kernel
theorem dL_law_991 : decode cL_law 991 = .ok (.iadd, 1) := by decide +kernel
theorem dL_law_992 : decode cL_law 992 = .ok (.iaload, 1) := by decide +kernel
theorem dL_law_993 : decode cL_law 993 = .ok (.aload_n 0, 1) := by decide +kernel
theorem dL_law_994 : decode cL_law 994 = .ok (.iload 4, 2) := by decide +kernel
theorem dL_law_996 : decode cL_law 996 = .ok (.iconst 2, 1) := by decide +kernel
theorem dL_law_997 : decode cL_law 997 = .ok (.iadd, 1) := by decide +kernel
theorem dL_law_998 : decode cL_law 998 = .ok (.iaload, 1) := by decide +kernel
theorem dL_law_999 : decode cL_law 999 = .ok (.aload_n 0, 1) := by decide +kernel
theorem dL_law_1000 : decode cL_law 1000 = .ok (.iload 4, 2) := by decide +kernel
theorem dL_law_1002 : decode cL_law 1002 = .ok (.iconst 3, 1) := by decide +kernel
theorem dL_law_1003 : decode cL_law 1003 = .ok (.iadd, 1) := by decide +kernel
theorem dL_law_1004 : decode cL_law 1004 = .ok (.iaload, 1) := by decide +kernel
theorem dL_law_1005 : decode cL_law 1005 = .ok (.invokevirtual 141, 3) := by decide +kernel
theorem dL_law_1008 : decode cL_law 1008 = .ok (.istore 6, 2) := by decide +kernel
theorem dL_law_1010 : decode cL_law 1010 = .ok (.aload_n 2, 1) := by decide +kernel
theorem dL_law_1011 : decode cL_law 1011 = .ok (.invokevirtual 87, 3) := by decide +kernel
theorem dL_law_1014 : decode cL_law 1014 = .ok (.iload 5, 2) := by decide +kernel
theorem dL_law_1016 : decode cL_law 1016 = .ok (.if_icmp .eq 5, 3) := by decide +kernel
theorem dL_law_1019 : decode cL_law 1019 = .ok (.iconst 0, 1) := by decide +kernel
theorem dL_law_1020 : decode cL_law 1020 = .ok (.ireturn, 1) := by decide +kernel
theorem dL_law_1021 : decode cL_law 1021 = .ok (.iload 5, 2) := by decide +kernel
theorem dL_law_1023 : decode cL_law 1023 = .ok (.ifCond .ne 15, 3) := by decide +kernel
theorem dL_law_1026 : decode cL_law 1026 = .ok (.aload_n 3, 1) := by decide +kernel
theorem dL_law_1027 : decode cL_law 1027 = .ok (.iconst 0, 1) := by decide +kernel
theorem dL_law_1028 : decode cL_law 1028 = .ok (.laload, 1) := by decide +kernel
theorem dL_law_1029 : decode cL_law 1029 = .ok (.iload 6, 2) := by decide +kernel
theorem dL_law_1031 : decode cL_law 1031 = .ok (.i2l, 1) := by decide +kernel
theorem dL_law_1032 : decode cL_law 1032 = .ok (.lcmp, 1) := by decide +kernel
theorem dL_law_1033 : decode cL_law 1033 = .ok (.ifCond .eq 5, 3) := by decide +kernel
theorem dL_law_1036 : decode cL_law 1036 = .ok (.iconst 0, 1) := by decide +kernel
theorem dL_law_1037 : decode cL_law 1037 = .ok (.ireturn, 1) := by decide +kernel
theorem dL_law_1038 : decode cL_law 1038 = .ok (.goto 190, 3) := by decide +kernel
theorem dL_law_1041 : decode cL_law 1041 = .ok (.aload_n 1, 1) := by decide +kernel
theorem dL_law_1042 : decode cL_law 1042 = .ok (.aload_n 0, 1) := by decide +kernel
theorem dL_law_1043 : decode cL_law 1043 = .ok (.iload 4, 2) := by decide +kernel
theorem dL_law_1045 : decode cL_law 1045 = .ok (.iconst 1, 1) := by decide +kernel
theorem dL_law_1046 : decode cL_law 1046 = .ok (.iadd, 1) := by decide +kernel
theorem dL_law_1047 : decode cL_law 1047 = .ok (.iaload, 1) := by decide +kernel
theorem dL_law_1048 : decode cL_law 1048 = .ok (.aload_n 3, 1) := by decide +kernel
theorem dL_law_1049 : decode cL_law 1049 = .ok (.invokestatic 142, 3) := by decide +kernel
theorem dL_law_1052 : decode cL_law 1052 = .ok (.istore 5, 2) := by decide +kernel
theorem dL_law_1054 : decode cL_law 1054 = .ok (.aload_n 2, 1) := by decide +kernel
theorem dL_law_1055 : decode cL_law 1055 = .ok (.aload_n 0, 1) := by decide +kernel
theorem dL_law_1056 : decode cL_law 1056 = .ok (.iload 4, 2) := by decide +kernel
theorem dL_law_1058 : decode cL_law 1058 = .ok (.iconst 1, 1) := by decide +kernel
theorem dL_law_1059 : decode cL_law 1059 = .ok (.iadd, 1) := by decide +kernel
theorem dL_law_1060 : decode cL_law 1060 = .ok (.iaload, 1) := by decide +kernel
theorem dL_law_1061 : decode cL_law 1061 = .ok (.invokevirtual 144, 3) := by decide +kernel
theorem dL_law_1064 : decode cL_law 1064 = .ok (.istore 6, 2) := by decide +kernel
theorem dL_law_1066 : decode cL_law 1066 = .ok (.aload_n 2, 1) := by decide +kernel
theorem dL_law_1067 : decode cL_law 1067 = .ok (.invokevirtual 87, 3) := by decide +kernel
theorem dL_law_1070 : decode cL_law 1070 = .ok (.iload 5, 2) := by decide +kernel
theorem dL_law_1072 : decode cL_law 1072 = .ok (.if_icmp .eq 5, 3) := by decide +kernel
theorem dL_law_1075 : decode cL_law 1075 = .ok (.iconst 0, 1) := by decide +kernel
theorem dL_law_1076 : decode cL_law 1076 = .ok (.ireturn, 1) := by decide +kernel
theorem dL_law_1077 : decode cL_law 1077 = .ok (.iload 5, 2) := by decide +kernel
theorem dL_law_1079 : decode cL_law 1079 = .ok (.ifCond .ne 22, 3) := by decide +kernel
theorem dL_law_1082 : decode cL_law 1082 = .ok (.aload_n 3, 1) := by decide +kernel
theorem dL_law_1083 : decode cL_law 1083 = .ok (.iconst 0, 1) := by decide +kernel
theorem dL_law_1084 : decode cL_law 1084 = .ok (.laload, 1) := by decide +kernel
theorem dL_law_1085 : decode cL_law 1085 = .ok (.iload 6, 2) := by decide +kernel
theorem dL_law_1087 : decode cL_law 1087 = .ok (.ifCond .eq 7, 3) := by decide +kernel
theorem dL_law_1090 : decode cL_law 1090 = .ok (.lconst 1, 1) := by decide +kernel
theorem dL_law_1091 : decode cL_law 1091 = .ok (.goto 4, 3) := by decide +kernel
theorem dL_law_1094 : decode cL_law 1094 = .ok (.lconst 0, 1) := by decide +kernel
theorem dL_law_1095 : decode cL_law 1095 = .ok (.lcmp, 1) := by decide +kernel
theorem dL_law_1096 : decode cL_law 1096 = .ok (.ifCond .eq 5, 3) := by decide +kernel
theorem dL_law_1099 : decode cL_law 1099 = .ok (.iconst 0, 1) := by decide +kernel
theorem dL_law_1100 : decode cL_law 1100 = .ok (.ireturn, 1) := by decide +kernel
theorem dL_law_1101 : decode cL_law 1101 = .ok (.goto 127, 3) := by decide +kernel
theorem dL_law_1104 : decode cL_law 1104 = .ok (.aload_n 1, 1) := by decide +kernel
theorem dL_law_1105 : decode cL_law 1105 = .ok (.aload_n 0, 1) := by decide +kernel
theorem dL_law_1106 : decode cL_law 1106 = .ok (.iload 4, 2) := by decide +kernel
theorem dL_law_1108 : decode cL_law 1108 = .ok (.iconst 1, 1) := by decide +kernel
theorem dL_law_1109 : decode cL_law 1109 = .ok (.iadd, 1) := by decide +kernel
theorem dL_law_1110 : decode cL_law 1110 = .ok (.iaload, 1) := by decide +kernel
theorem dL_law_1111 : decode cL_law 1111 = .ok (.aload_n 3, 1) := by decide +kernel
theorem dL_law_1112 : decode cL_law 1112 = .ok (.invokestatic 145, 3) := by decide +kernel
theorem dL_law_1115 : decode cL_law 1115 = .ok (.istore 5, 2) := by decide +kernel
theorem dL_law_1117 : decode cL_law 1117 = .ok (.aload_n 2, 1) := by decide +kernel
theorem dL_law_1118 : decode cL_law 1118 = .ok (.aload_n 0, 1) := by decide +kernel
theorem dL_law_1119 : decode cL_law 1119 = .ok (.iload 4, 2) := by decide +kernel
theorem dL_law_1121 : decode cL_law 1121 = .ok (.iconst 1, 1) := by decide +kernel
theorem dL_law_1122 : decode cL_law 1122 = .ok (.iadd, 1) := by decide +kernel
theorem dL_law_1123 : decode cL_law 1123 = .ok (.iaload, 1) := by decide +kernel
theorem dL_law_1124 : decode cL_law 1124 = .ok (.invokevirtual 147, 3) := by decide +kernel
theorem dL_law_1127 : decode cL_law 1127 = .ok (.lstore 6, 2) := by decide +kernel
theorem dL_law_1129 : decode cL_law 1129 = .ok (.aload_n 2, 1) := by decide +kernel
theorem dL_law_1130 : decode cL_law 1130 = .ok (.invokevirtual 87, 3) := by decide +kernel
theorem dL_law_1133 : decode cL_law 1133 = .ok (.iload 5, 2) := by decide +kernel
theorem dL_law_1135 : decode cL_law 1135 = .ok (.if_icmp .eq 5, 3) := by decide +kernel
theorem dL_law_1138 : decode cL_law 1138 = .ok (.iconst 0, 1) := by decide +kernel
theorem dL_law_1139 : decode cL_law 1139 = .ok (.ireturn, 1) := by decide +kernel
theorem dL_law_1140 : decode cL_law 1140 = .ok (.iload 5, 2) := by decide +kernel
theorem dL_law_1142 : decode cL_law 1142 = .ok (.ifCond .ne 14, 3) := by decide +kernel
theorem dL_law_1145 : decode cL_law 1145 = .ok (.aload_n 3, 1) := by decide +kernel
theorem dL_law_1146 : decode cL_law 1146 = .ok (.iconst 0, 1) := by decide +kernel
theorem dL_law_1147 : decode cL_law 1147 = .ok (.laload, 1) := by decide +kernel
theorem dL_law_1148 : decode cL_law 1148 = .ok (.lload 6, 2) := by decide +kernel
theorem dL_law_1150 : decode cL_law 1150 = .ok (.lcmp, 1) := by decide +kernel
theorem dL_law_1151 : decode cL_law 1151 = .ok (.ifCond .eq 5, 3) := by decide +kernel
theorem dL_law_1154 : decode cL_law 1154 = .ok (.iconst 0, 1) := by decide +kernel
theorem dL_law_1155 : decode cL_law 1155 = .ok (.ireturn, 1) := by decide +kernel
theorem dL_law_1156 : decode cL_law 1156 = .ok (.goto 72, 3) := by decide +kernel
theorem dL_law_1159 : decode cL_law 1159 = .ok (.aload_n 1, 1) := by decide +kernel
theorem dL_law_1160 : decode cL_law 1160 = .ok (.aload_n 0, 1) := by decide +kernel
theorem dL_law_1161 : decode cL_law 1161 = .ok (.iload 4, 2) := by decide +kernel
theorem dL_law_1163 : decode cL_law 1163 = .ok (.iconst 1, 1) := by decide +kernel
theorem dL_law_1164 : decode cL_law 1164 = .ok (.iadd, 1) := by decide +kernel
theorem dL_law_1165 : decode cL_law 1165 = .ok (.iaload, 1) := by decide +kernel
theorem dL_law_1166 : decode cL_law 1166 = .ok (.aload_n 3, 1) := by decide +kernel
theorem dL_law_1167 : decode cL_law 1167 = .ok (.invokestatic 148, 3) := by decide +kernel
theorem dL_law_1170 : decode cL_law 1170 = .ok (.istore 5, 2) := by decide +kernel
theorem dL_law_1172 : decode cL_law 1172 = .ok (.aload_n 2, 1) := by decide +kernel
theorem dL_law_1173 : decode cL_law 1173 = .ok (.aload_n 0, 1) := by decide +kernel
theorem dL_law_1174 : decode cL_law 1174 = .ok (.iload 4, 2) := by decide +kernel
theorem dL_law_1176 : decode cL_law 1176 = .ok (.iconst 1, 1) := by decide +kernel
theorem dL_law_1177 : decode cL_law 1177 = .ok (.iadd, 1) := by decide +kernel
theorem dL_law_1178 : decode cL_law 1178 = .ok (.iaload, 1) := by decide +kernel
theorem dL_law_1179 : decode cL_law 1179 = .ok (.invokevirtual 150, 3) := by decide +kernel
theorem dL_law_1182 : decode cL_law 1182 = .ok (.istore 6, 2) := by decide +kernel
theorem dL_law_1184 : decode cL_law 1184 = .ok (.aload_n 2, 1) := by decide +kernel
theorem dL_law_1185 : decode cL_law 1185 = .ok (.invokevirtual 87, 3) := by decide +kernel
theorem dL_law_1188 : decode cL_law 1188 = .ok (.iload 5, 2) := by decide +kernel
theorem dL_law_1190 : decode cL_law 1190 = .ok (.if_icmp .eq 5, 3) := by decide +kernel
theorem dL_law_1193 : decode cL_law 1193 = .ok (.iconst 0, 1) := by decide +kernel
theorem dL_law_1194 : decode cL_law 1194 = .ok (.ireturn, 1) := by decide +kernel
theorem dL_law_1195 : decode cL_law 1195 = .ok (.iload 5, 2) := by decide +kernel
theorem dL_law_1197 : decode cL_law 1197 = .ok (.ifCond .ne 15, 3) := by decide +kernel
theorem dL_law_1200 : decode cL_law 1200 = .ok (.aload_n 3, 1) := by decide +kernel
theorem dL_law_1201 : decode cL_law 1201 = .ok (.iconst 0, 1) := by decide +kernel
theorem dL_law_1202 : decode cL_law 1202 = .ok (.laload, 1) := by decide +kernel
theorem dL_law_1203 : decode cL_law 1203 = .ok (.iload 6, 2) := by decide +kernel
theorem dL_law_1205 : decode cL_law 1205 = .ok (.i2l, 1) := by decide +kernel
theorem dL_law_1206 : decode cL_law 1206 = .ok (.lcmp, 1) := by decide +kernel
theorem dL_law_1207 : decode cL_law 1207 = .ok (.ifCond .eq 5, 3) := by decide +kernel
theorem dL_law_1210 : decode cL_law 1210 = .ok (.iconst 0, 1) := by decide +kernel
theorem dL_law_1211 : decode cL_law 1211 = .ok (.ireturn, 1) := by decide +kernel
theorem dL_law_1212 : decode cL_law 1212 = .ok (.goto 16, 3) := by decide +kernel
theorem dL_law_1215 : decode cL_law 1215 = .ok (.aload_n 1, 1) := by decide +kernel
theorem dL_law_1216 : decode cL_law 1216 = .ok (.invokevirtual 151, 3) := by decide +kernel
theorem dL_law_1219 : decode cL_law 1219 = .ok (.aload_n 2, 1) := by decide +kernel
theorem dL_law_1220 : decode cL_law 1220 = .ok (.invokevirtual 155, 3) := by decide +kernel
theorem dL_law_1223 : decode cL_law 1223 = .ok (.if_icmp .eq 5, 3) := by decide +kernel
theorem dL_law_1226 : decode cL_law 1226 = .ok (.iconst 0, 1) := by decide +kernel
theorem dL_law_1227 : decode cL_law 1227 = .ok (.ireturn, 1) := by decide +kernel
theorem dL_law_1228 : decode cL_law 1228 = .ok (.iinc 4 4, 3) := by decide +kernel
theorem dL_law_1231 : decode cL_law 1231 = .ok (.goto (-1208), 3) := by decide +kernel
theorem dL_law_1234 : decode cL_law 1234 = .ok (.iconst 1, 1) := by decide +kernel
theorem dL_law_1235 : decode cL_law 1235 = .ok (.ireturn, 1) := by decide +kernel
end
section
/-! THE PURE MACHINE: worlds as lists of cells, references as places in the list -/
abbrev gE : Type := (Nat × vp_A) ⊕ (Nat × List Value)
abbrev gW : Type := List gE
abbrev gM : Type := MethodName × ByteArray × Nat × Option FieldType × List (Nat × Nat × Nat × Nat)
abbrev gR : Type := Option Value ⊕ String
def gv (κ : Nat → Nat) : Value → Value
  | .ref k => .ref (κ k)
  | v => v
def ga (κ : Nat → Nat) (a : vp_A) : vp_A := (a.1, match a.2 with
  | .inl f => .inl f
  | .inr (.inl f) => .inr (.inl f)
  | .inr (.inr (.inl f)) => .inr (.inr (.inl f))
  | .inr (.inr (.inr (.inl f))) => .inr (.inr (.inr (.inl f)))
  | .inr (.inr (.inr (.inr f))) => .inr (.inr (.inr (.inr (fun j => (f j).map κ)))))
def ge (dA : Nat → ClassId) (κ : Nat → Nat) : gE → va_E
  | .inl q => .inl (dA q.1, ga κ q.2)
  | .inr o => .inr (o.1, o.2.map (gv κ))
def gk (dA : Nat → ClassId) (κ : Nat → Nat) (w : gW) : va_W := w.mapIdx (fun i e => (κ i, ge dA κ e))
theorem gk_get {dA : Nat → ClassId} {κ : Nat → Nat} {w : gW} {k : Nat} {e : gE} (h : w[k]? = some e) : (gk dA κ w)[k]? = some (κ k, ge dA κ e) := by
  simp [gk, List.getElem?_mapIdx, h]
theorem gk_set {dA : Nat → ClassId} {κ : Nat → Nat} {w : gW} {k : Nat} {e : gE} : gk dA κ (w.set k e) = (gk dA κ w).set k (κ k, ge dA κ e) := by
  apply List.ext_getElem?
  intro i
  simp only [gk, List.getElem?_mapIdx, List.getElem?_set, List.length_mapIdx]
  by_cases h : k = i
  · subst h
    by_cases h2 : k < w.length
    · simp [h2]
    · simp [h2]
  · simp [h]
theorem gk_len {dA : Nat → ClassId} {κ : Nat → Nat} {w : gW} : (gk dA κ w).length = w.length := by simp [gk]
theorem gv_cat (κ : Nat → Nat) (v : Value) : (gv κ v).category = v.category := by cases v <;> rfl
/-- the locals that are known, by their places -/
def gas (κ : Nat → Nat) : Nat → List (Option Value) → List (Nat × Value)
  | _, [] => []
  | i, none :: r => gas κ (i + 1) r
  | i, some v :: r => (i, gv κ v) :: gas κ (i + 1) r
theorem gas_mem (κ : Nat → Nat) : ∀ (ls : List (Option Value)) (i : Nat) (q : Nat × Value), q ∈ gas κ i ls ↔ ∃ (k : Nat) (v : Value), ls[k]? = some (some v) ∧ q = (i + k, gv κ v) := by
  intro ls
  induction ls with
  | nil => intro i q; simp [gas]
  | cons a r ih =>
    intro i q
    cases a with
    | none =>
      simp only [gas, ih]
      constructor
      · rintro ⟨k, v, h1, h2⟩
        exact ⟨k + 1, v, by simpa using h1, by rw [h2]; congr 1; omega⟩
      · rintro ⟨k, v, h1, h2⟩
        cases k with
        | zero => simp at h1
        | succ k => exact ⟨k, v, by simpa using h1, by rw [h2]; congr 1; omega⟩
    | some u =>
      simp only [gas, List.mem_cons, ih]
      constructor
      · rintro (h | ⟨k, v, h1, h2⟩)
        · exact ⟨0, u, by simp, by simpa using h⟩
        · exact ⟨k + 1, v, by simpa using h1, by rw [h2]; congr 1; omega⟩
      · rintro ⟨k, v, h1, h2⟩
        cases k with
        | zero =>
          simp at h1
          subst h1
          exact Or.inl (by simpa using h2)
        | succ k => exact Or.inr ⟨k, v, by simpa using h1, by rw [h2]; congr 1; omega⟩
/-- what stands before i and reaches over it goes -/
def gx (i : Nat) (ls : List (Option Value)) : List (Option Value) := match i with
  | 0 => ls
  | j + 1 => match ls[j]? with
    | some (some (.long _)) => ls.set j none
    | some (some (.double _)) => ls.set j none
    | _ => ls
def gs1 (i : Nat) (v : Value) (ls : List (Option Value)) : List (Option Value) := (gx i ls).set i (some v)
def gs2 (i : Nat) (v : Value) (ls : List (Option Value)) : List (Option Value) := ((gx i ls).set i (some v)).set (i + 1) none
theorem gx_in {i k : Nat} {ls : List (Option Value)} {u : Value} (h : (gx i ls)[k]? = some (some u)) : ls[k]? = some (some u) ∧ ¬ (k + 1 = i ∧ u.category = 2) := by
  cases i with
  | zero => exact ⟨h, fun z => by omega⟩
  | succ j =>
    by_cases hk : k = j
    · subst hk
      unfold gx at h
      dsimp only at h
      split at h
      · rw [List.getElem?_set] at h
        split at h
        · split at h
          · cases h
          · cases h
        · omega
      · rw [List.getElem?_set] at h
        split at h
        · split at h
          · cases h
          · cases h
        · omega
      · rename_i h1 h2
        refine ⟨h, fun z => ?_⟩
        cases u with
        | long x => exact h1 x h
        | double x => exact h2 x h
        | _ => exact absurd z.2 (by simp [Value.category])
    · refine ⟨?_, fun z => hk (by omega)⟩
      unfold gx at h
      dsimp only at h
      have hk' : ¬ j = k := fun z => hk z.symm
      split at h
      · rw [List.getElem?_set, if_neg hk'] at h; exact h
      · rw [List.getElem?_set, if_neg hk'] at h; exact h
      · exact h
theorem gs1_has {κ : Nat → Nat} {lsr : Array Slot} {nL i : Nat} {v : Value} {ls : List (Option Value)} (h : lv_has lsr nL ((i, gv κ v) :: (gas κ 0 ls).filter (fun q => !(q.1 == i) && !(q.1 + 1 == i && q.2.category == 2)))) : lv_has lsr nL (gas κ 0 (gs1 i v ls)) := by
  refine ⟨h.1, h.2.1, fun q hq => h.2.2 q ?_⟩
  obtain ⟨k, u, h1, rfl⟩ := (gas_mem κ _ _ _).mp hq
  unfold gs1 at h1
  rw [List.getElem?_set] at h1
  by_cases hk : i = k
  · subst hk
    rw [if_pos rfl] at h1
    split at h1
    · cases h1
      exact List.mem_cons.mpr (Or.inl (by simp))
    · cases h1
  · rw [if_neg hk] at h1
    obtain ⟨h2, h3⟩ := gx_in h1
    refine List.mem_cons.mpr (Or.inr (List.mem_filter.mpr ⟨(gas_mem κ _ _ _).mpr ⟨k, u, h2, rfl⟩, ?_⟩))
    have hki : ¬ (0 + k) = i := fun z => hk (by omega)
    simp only [gv_cat, Bool.and_eq_true, Bool.not_eq_true', beq_eq_false_iff_ne, ne_eq, Bool.and_eq_false_iff]
    refine ⟨hki, ?_⟩
    by_cases hc : 0 + k + 1 = i
    · exact Or.inr (fun z => h3 ⟨by omega, z⟩)
    · exact Or.inl hc
theorem gs2_has {κ : Nat → Nat} {lsr : Array Slot} {nL i : Nat} {v : Value} {ls : List (Option Value)} (h : lv_has lsr nL ((i, gv κ v) :: (gas κ 0 ls).filter (fun q => !(q.1 == i) && (!(q.1 == i + 1) && !(q.1 + 1 == i && q.2.category == 2))))) : lv_has lsr nL (gas κ 0 (gs2 i v ls)) := by
  refine ⟨h.1, h.2.1, fun q hq => h.2.2 q ?_⟩
  obtain ⟨k, u, h1, rfl⟩ := (gas_mem κ _ _ _).mp hq
  unfold gs2 at h1
  rw [List.getElem?_set] at h1
  by_cases hk2 : i + 1 = k
  · rw [if_pos hk2] at h1
    split at h1
    · cases h1
    · cases h1
  · rw [if_neg hk2, List.getElem?_set] at h1
    by_cases hk : i = k
    · subst hk
      rw [if_pos rfl] at h1
      split at h1
      · cases h1
        exact List.mem_cons.mpr (Or.inl (by simp))
      · cases h1
    · rw [if_neg hk] at h1
      obtain ⟨h2, h3⟩ := gx_in h1
      refine List.mem_cons.mpr (Or.inr (List.mem_filter.mpr ⟨(gas_mem κ _ _ _).mpr ⟨k, u, h2, rfl⟩, ?_⟩))
      have hki : ¬ (0 + k) = i := fun z => hk (by omega)
      have hki2 : ¬ (0 + k) = i + 1 := fun z => hk2 (by omega)
      simp only [gv_cat, Bool.and_eq_true, Bool.not_eq_true', beq_eq_false_iff_ne, ne_eq, Bool.and_eq_false_iff]
      refine ⟨hki, hki2, ?_⟩
      by_cases hc : 0 + k + 1 = i
      · exact Or.inr (fun z => h3 ⟨by omega, z⟩)
      · exact Or.inl hc
theorem gas_at {κ : Nat → Nat} {lsr : Array Slot} {nL i : Nat} {v : Value} {ls : List (Option Value)} (h : lv_has lsr nL (gas κ 0 ls)) (hl : ls[i]? = some (some v)) : lsr[i]? = some (.val (gv κ v)) :=
  h.2.2 (i, gv κ v) ((gas_mem κ _ _ _).mpr ⟨i, v, hl, by simp⟩)
end
section
/-! CATCHING: an exception over a frame goes on at the handler of its class (after the library's road: search, link, step) -/
section GCA
theorem gasg (vm : Vm) (c : ClassId) : vm.assignable c c = true := by
  show vm.assignableAux (255 + 1) c c = true
  rw [Vm.assignableAux]
  simp only [beq_self_eq_true, Bool.true_or]
def gFT (e : Env) (s : State) (f : JFrame) (a : Addr) (h : Handler) (vm' : Vm) : Prop :=
  ∀ (Q : Handler → Pre) (E : CtlPost) (d : Bool) (acts : List Action), wp (findHandler f a) Q E e d acts s ↔ Q h d acts (s.setVm vm')
theorem gfh_yes {Q : Handler → Pre} {E : CtlPost} {e : Env} {d : Bool} {acts : List Action} {s : State} {f : JFrame} {a : Addr} {x : ExceptionTableEntry} {t : List ExceptionTableEntry} {c : ClassId} {cell : Cell} (hx : covers x f.pc = true) (h0 : x.catchType ≠ 0)
    (hl : s.vm.ClassLinks e.platform f.method.cls x.catchType c) (hcell : s.heap[a]? = some cell) (hobj : ∀ k, cell.vm ≠ .statics k)
    (hk : ∃ k, s.vm.classes[cell.cls]? = some k) (hc : ∃ k, s.vm.classes[c]? = some k) (hfit : s.vm.assignable cell.cls c = true) :
    wp (findHandler.go f a (x :: t)) Q E e d acts s ↔ Q (.found x.handlerPc) d acts (s.setVm (s.vm.noted f.method.cls x.catchType (.cls c))) := by
  simp only [covers] at hx
  obtain ⟨ha, ht⟩ := (resolveClass_links e.toSetting hl).op (op := VmOp.resolveClass f.method.cls x.catchType) rfl
  have hal : s.vm.Alike (s.vm.noted f.method.cls x.catchType (.cls c)) := (Vm.Alike.refl s.vm).noted _ _ _
  obtain ⟨k1, hk1⟩ := hk
  obtain ⟨k2, hk2⟩ := hc
  obtain ⟨k1', hk1', -⟩ := hal.2.2 _ _ hk1
  obtain ⟨k2', hk2', -⟩ := hal.2.2 _ _ hk2
  have hfit' : (s.vm.noted f.method.cls x.catchType (.cls c)).assignable cell.cls c = true := by rw [hal.assignable]; exact hfit
  simp [findHandler.go, hx, h0, ha, ht, hcell, hobj, hk1', hk2', hfit', VmOp.dirties, VmOp.acts]
theorem gfh_no {Q : Handler → Pre} {E : CtlPost} {e : Env} {d : Bool} {acts : List Action} {s : State} {f : JFrame} {a : Addr} {x : ExceptionTableEntry} {t : List ExceptionTableEntry} {c : ClassId} {cell : Cell} (hx : covers x f.pc = true) (h0 : x.catchType ≠ 0)
    (hl : s.vm.ClassLinks e.platform f.method.cls x.catchType c) (hcell : s.heap[a]? = some cell) (hobj : ∀ k, cell.vm ≠ .statics k)
    (hk : ∃ k, s.vm.classes[cell.cls]? = some k) (hc : ∃ k, s.vm.classes[c]? = some k) (hno : s.vm.assignable cell.cls c = false) :
    wp (findHandler.go f a (x :: t)) Q E e d acts s ↔ wp (findHandler.go f a t) Q E e d acts (s.setVm (s.vm.noted f.method.cls x.catchType (.cls c))) := by
  simp only [covers] at hx
  obtain ⟨ha, ht⟩ := (resolveClass_links e.toSetting hl).op (op := VmOp.resolveClass f.method.cls x.catchType) rfl
  have hal : s.vm.Alike (s.vm.noted f.method.cls x.catchType (.cls c)) := (Vm.Alike.refl s.vm).noted _ _ _
  obtain ⟨k1, hk1⟩ := hk
  obtain ⟨k2, hk2⟩ := hc
  obtain ⟨k1', hk1', -⟩ := hal.2.2 _ _ hk1
  obtain ⟨k2', hk2', -⟩ := hal.2.2 _ _ hk2
  have hno' : (s.vm.noted f.method.cls x.catchType (.cls c)).assignable cell.cls c = false := by rw [hal.assignable]; exact hno
  simp [findHandler.go, hx, h0, ha, ht, hcell, hobj, hk1', hk2', hno', VmOp.dirties, VmOp.acts]
theorem gfh_go {e : Env} {s₀ : State} {f : JFrame} {a : Addr} {cell : Cell} (hobj : ∀ k, cell.vm ≠ .statics k) (hk0 : ∃ k, s₀.vm.classes[cell.cls]? = some k)
    (x : ExceptionTableEntry) (rest : List ExceptionTableEntry) (hx : covers x f.pc = true) (h0 : x.catchType ≠ 0) {cx : ClassId} (hlx : s₀.vm.ClassLinks e.platform f.method.cls x.catchType cx) (hfit : s₀.vm.assignable cell.cls cx = true) :
    ∀ (pre : List ExceptionTableEntry) (S : State), s₀.WarmedH S.vm → S.heap[a]? = some cell → (∀ y ∈ pre, covers y f.pc = false ∨ (y.catchType ≠ 0 ∧ ∃ c, s₀.vm.ClassLinks e.platform f.method.cls y.catchType c ∧ s₀.vm.assignable cell.cls c = false)) →
      ∃ vm', s₀.WarmedH vm' ∧ ∀ (Q : Handler → Pre) (E : CtlPost) (d : Bool) (acts : List Action), wp (findHandler.go f a (pre ++ x :: rest)) Q E e d acts S ↔ Q (.found x.handlerPc) d acts (S.setVm vm') := by
  obtain ⟨k0, hk0⟩ := hk0
  intro pre
  induction pre with
  | nil =>
    intro S hW hcell _
    obtain ⟨k0', hk0', -⟩ := hW.alike.2.2 _ _ hk0
    obtain ⟨dk, _, _, kt, hd, _, _, _, _, hkt, _, hopen⟩ := hlx.here
    obtain ⟨kt', hkt', -⟩ := hW.alike.2.2 _ _ hkt
    exact ⟨_, hW.noted hd hopen (State.rightAt_cls hlx), fun Q E d acts => by
      rw [List.nil_append]
      exact gfh_yes hx h0 (hW.classLinks hlx) hcell hobj ⟨k0', hk0'⟩ ⟨kt', hkt'⟩ (by rw [hW.alike.assignable]; exact hfit)⟩
  | cons y ys ih =>
    intro S hW hcell hpass
    obtain ⟨k0', hk0', -⟩ := hW.alike.2.2 _ _ hk0
    have hrest := fun z hz => hpass z (List.mem_cons_of_mem _ hz)
    by_cases hcov : covers y f.pc = true
    · rcases hpass y (List.mem_cons_self ..) with h | ⟨h0, c, hl, hno⟩
      · rw [h] at hcov; cases hcov
      · obtain ⟨dk, _, _, kt, hd, _, _, _, _, hkt, _, hopen⟩ := hl.here
        obtain ⟨kt', hkt', -⟩ := hW.alike.2.2 _ _ hkt
        obtain ⟨vm', hW', hq⟩ := ih (S.setVm (S.vm.noted f.method.cls y.catchType (.cls c))) (hW.noted hd hopen (State.rightAt_cls hl)) hcell hrest
        exact ⟨vm', hW', fun Q E d acts => by
          rw [List.cons_append, gfh_no hcov h0 (hW.classLinks hl) hcell hobj ⟨k0', hk0'⟩ ⟨kt', hkt'⟩ (by rw [hW.alike.assignable]; exact hno)]
          exact hq Q E d acts⟩
    · obtain ⟨vm', hW', hq⟩ := ih S hW hcell hrest
      exact ⟨vm', hW', fun Q E d acts => by
        rw [List.cons_append, W.findHandler_go_skip (by simpa using hcov)]
        exact hq Q E d acts⟩
theorem gfh_step {e : Env} {s : State} {a : Addr} {f : JFrame} {r : List Frame} {pc : Nat} {vm' : Vm} (hfind : gFT e s f a (.found pc) vm') :
    (stepThrowing e s a (.java f :: r)).Is ((s.setVm vm').setFrames (.java { f with pc := pc, stack := [.ref a] } :: r)) [] := by
  simp only [stepThrowing, searchFrame, vmDo]
  generalize hr : Sem.go _ e false [] s = res
  obtain ⟨as, rfl, ha⟩ := Sem.eq_ok_of hr (a := Handler.found pc) (s' := s.setVm vm') (acts' := []) (by simp [hfind _ _ _ _])
  exact ⟨rfl, ha⟩
theorem gfh_frames (u : State) (vm' : Vm) (F K : List Frame) : ((u.setFrames F).setVm vm').setFrames K = (u.setVm vm').setFrames K := by
  have h1 : (u.setFrames F).setVm vm' = (u.setVm vm').setFrames F := rfl
  rw [h1, State.setFrames_setFrames]
theorem gfh_caught {tb : Tables} {e : Env} {s target : State} {g : JFrame} {c : Code} {below : List Frame} {a : Addr} (h : At s g.method c below) {pc : Nat} {vm' : Vm}
    (hfind : gFT e ((s.setTop g).pushFrame (.throwing a)) g a (.found pc) vm') (hrest : Steps tb e below ((s.setVm vm').setTop { g with pc := pc, stack := [.ref a] }) target) :
    Steps tb e below ((s.setTop g).pushFrame (.throwing a)) target := by
  obtain ⟨hgo, hw⟩ := h.throwing a
  refine Steps.head hgo hw ?_
  rw [stepThread_throwing (frames_entered h.top _), (gfh_step (s := (s.setTop g).pushFrame (.throwing a)) hfind).1]
  obtain ⟨g₀, hg⟩ := Option.isSome_iff_exists.mp h.top
  obtain ⟨r, hr⟩ := State.topJava?_eq_some.mp hg
  have hr' : (s.setVm vm').frames = .java g₀ :: r := hr
  rw [State.setTop_of_frames _ hr'] at hrest
  rw [hr, List.tail_cons, State.pushFrame, gfh_frames, State.setTop_of_frames _ hr, gfh_frames]
  exact hrest
/-- an exception of class E over a frame of this method: the row x of its table takes it, the rows ahead don't -/
theorem gcatch {p : Program} {l : Launch} {e : Env} {R : Room} {s : State} {m : MethodId} {args : Array Value} {below : List Frame} {meth : Method} {c : Code} {T : State} {locs : List Loc} {cells slots : Nat} (X : Stand p l e R s m args below meth c T locs cells slots)
    {own E : String} (hown : s.vm.findClass own = some m.cls) {a : Addr} {cell : Cell} (hcell : T.heap[a]? = some cell) (hobj : cell.vm.isStatics = false) (hE : s.vm.findClass E = some cell.cls) {g : JFrame} (hg : g.method = m)
    (pre : List ExceptionTableEntry) (x : ExceptionTableEntry) (rest : List ExceptionTableEntry) (hsplit : c.exceptionTable.toList = pre ++ x :: rest)
    (hpass : ∀ z ∈ pre, covers z g.pc = false ∨ (z.catchType ≠ 0 ∧ ∃ nm : String, (Cond.classLink own z.catchType nm).before args s = true ∧ va_Nc E nm s)) (hx : covers x g.pc = true) (h0 : x.catchType ≠ 0)
    (hlink : (Cond.classLink own x.catchType E).before args s = true) :
    ∃ vm', Stand p l e R s m args below meth c (T.setVm vm') locs cells slots ∧ Steps p.tables e below ((T.setTop g).pushFrame (.throwing a)) ((T.setVm vm').setTop { g with pc := x.handlerPc, stack := [.ref a] }) := by
  subst hg
  have hpl : e.platform.magicAccessors = ({} : Platform).magicAccessors := by rw [X.admits.platform]
  obtain ⟨c5, hc5, hcl5⟩ := Cond.classLink_spec hown hlink e.platform hpl
  cases Option.some.inj (hE.symm.trans hc5)
  have hasg : s.vm.assignable cell.cls cell.cls = true := gasg s.vm cell.cls
  obtain ⟨vm', hW', hq⟩ := gfh_go (e := e) (s₀ := s) (f := g) (a := a) (cell := cell) (VmData.ne_statics_of hobj) (by obtain ⟨k9, h9, -⟩ := Vm.findClass_spec hE; exact ⟨k9, h9⟩) x rest hx h0 hcl5 hasg pre ((T.setTop g).pushFrame (.throwing a)) X.warmed hcell
    (fun z hz => by
      rcases hpass z hz with h | ⟨hz0, nm, hl1, hn1⟩
      · exact Or.inl h
      · obtain ⟨c6, hc6, hcl6⟩ := Cond.classLink_spec hown hl1 e.platform hpl
        obtain ⟨a8, b8, h1, h2, h3⟩ := hn1
        cases Option.some.inj (h1.symm.trans hE)
        cases Option.some.inj (h2.symm.trans hc6)
        exact Or.inr ⟨hz0, _, hcl6, h3⟩)
  exact ⟨vm', X.noted hW', gfh_caught X.here (fun Q E d acts => by rw [W.findHandler_eq (s := (T.setTop g).pushFrame (.throwing a)) (f := g) (a := a) (meth := meth) (code := c) X.method' X.code, hsplit]; exact hq Q E d acts) (Steps.refl _)⟩
end GCA
end
section
/-! WHAT THE PURE MACHINE KNOWS OF THIS CLAIM: classes, array types, words, texts, classes that are no other's -/
abbrev gcls : List vw_C := [(RX0, TX0, 4), (RX1, TX1, 4), (RX2, TX2, 12), (RX3, TX3, 4), (RX4, TX4, 6), (RX5, TX5, 31)]
abbrev gtys (dA : Nat → ClassId) : List (ClassId × FieldType) := [(dA 0, .int), (dA 1, .long), (dA 2, .byte), (dA 3, .boolean)]
def gnest : Cond → Bool
  | .fieldLinkNest _ _ _ _ _ _ => true
  | .methodLinkNest _ _ _ _ => true
  | _ => false
def gok (w : Cond) : Bool := goodWord w || gnest w
def gT : List Cond := lw_tbl.filter gok
def gHT (s : State) : Prop := ∀ x ∈ gT, ∀ a : Array Value, x.before a s = true
theorem gin {w : Cond} (i : Nat) (h : lw_tbl[i]? = some w) (h2 : gok w = true) : w ∈ gT := List.mem_filter.mpr ⟨List.mem_of_getElem? h, h2⟩
theorem gT_warm {s U : State} (hW : s.WarmedH U.vm) (h : gHT s) : gHT U := by
  intro x hx a
  have hz := h x hx #[]
  have hg : gok x = true := (List.mem_filter.mp hx).2
  unfold gok at hg
  rcases Bool.or_eq_true_iff.mp hg with h1 | h1
  · exact word_at hW (good_of_word h1) hz
  · cases x with
    | fieldLinkNest a1 a2 a3 a4 a5 a6 => exact va_Nw.use rfl (va_Nw.warmF hW hz)
    | methodLinkNest a1 a2 a3 a4 => exact va_Nw.use rfl (va_Nw.warmM hW hz)
    | _ => exact absurd h1 (by simp [gnest])
theorem gT_of {s : State} {args : Array Value} (h : ∀ w ∈ lw_tbl, w.before args s = true) : gHT s := by
  intro x hx a
  have hz := h x (List.mem_filter.mp hx).1
  have hg : gok x = true := (List.mem_filter.mp hx).2
  unfold gok at hg
  rcases Bool.or_eq_true_iff.mp hg with h1 | h1
  · exact word_at (State.WarmedH.refl s) (good_of_word h1) hz
  · cases x with
    | fieldLinkNest a1 a2 a3 a4 a5 a6 => exact va_Nw.use rfl (va_Nw.of (w := .fieldLinkNest a1 a2 a3 a4 a5 a6) rfl hz)
    | methodLinkNest a1 a2 a3 a4 => exact va_Nw.use rfl (va_Nw.of (w := .methodLinkNest a1 a2 a3 a4) rfl hz)
    | _ => exact absurd h1 (by simp [gnest])
def gstr : List (String × Nat × String) := [("GraphLog", 39, "the room is below 0"), ("GraphLog", 47, "the room is not 1 .. 65536"), ("GraphLog", 227, "the store is closed"), ("GraphLog", 230, "no such node"), ("GraphLog", 232, "no such version"), ("GraphLog", 236, "no such place"), ("GraphLog", 168, "a graph has no such chunk"), ("GraphLog", 178, "no such chunk"), ("GraphLog", 234, "no such answer"), ("GraphLog", 223, "nothing of that number is told")]
abbrev gNA : String := "java/lang/NegativeArraySizeException"
abbrev gIA : String := "java/lang/IllegalArgumentException"
abbrev gIS : String := "java/lang/IllegalStateException"
abbrev gIO : String := "java/lang/IndexOutOfBoundsException"
def gncs : List (String × String) := [(gIA, gNA), (gIS, gNA), (gIO, gNA), (gNA, gIA), (gIS, gIA), (gIO, gIA), (gNA, gIS), (gIA, gIS), (gIO, gIS), (gNA, gIO), (gIA, gIO), (gIS, gIO)]
/-- what a throw and its catching need of the heap, of the constants and of the classes -/
def gH0 (A : Nat → Prop) (s : State) : Prop := vx_Zq Bundle.tN "UNASSIGNED_STACK" Bundle.steD A s s.heap ∧ vx_Zq Bundle.tN "SUPPRESSED_SENTINEL" Bundle.listD A s s.heap ∧ (∀ q ∈ gstr, ∃ sa, vk_R q.1 q.2.1 q.2.2 sa s) ∧ ∀ q ∈ gncs, va_Nc q.1 q.2 s
theorem gH0_call {A B : Nat → Prop} {s U : State} (h : gH0 A s) (hS : ∀ q : Nat, q < s.heap.size → ¬ A q → U.heap[q]? = s.heap[q]?) (hW : s.WarmedH U.vm) (hAB : ∀ q, B q → A q) : gH0 B U :=
  ⟨((h.1.kept hS).moved hW.alike).narrow hAB, ((h.2.1.kept hS).moved hW.alike).narrow hAB, fun q hq => by obtain ⟨sa, hs⟩ := h.2.2.1 q hq; exact ⟨sa, vk_R.warm hW hs⟩, fun q hq => va_Nc.moved hW.alike (h.2.2.2 q hq)⟩
/-- the word of a method's code -/
def gcode (M : gM) : Cond := match M.2.2.2.2 with
  | [] => .code M.1 M.2.1 M.2.2.1 M.2.2.2.1
  | h :: hh => .codeWith M.1 M.2.1 M.2.2.1 M.2.2.2.1 (h :: hh)
/-- what stands over a method's walk: the machine, the code, the tables' words, the classes -/
def gC (M : gM) (d : Nat × Nat) (p : Program) (l : Launch) (R : Room) (s : State) (m : MethodId) (meth : Method) (c : Code) (A : Nat → Prop) (D : va_G) (dA : Nat → ClassId) : Prop :=
  p.tables.exec = Jvm.exec ∧ c.code = M.2.1 ∧ c.maxLocals = M.2.2.1 ∧ meth.sig.returnType = M.2.2.2.1 ∧ s.vm.findClass M.1.cls = some m.cls ∧ gHT s ∧ va_K D gcls (gtys dA) s ∧
  (∀ q : Nat, s.heap.size ≤ q → A q) ∧ meth.locks = false ∧ (d.1 ≤ R.frames ∧ d.2 ≤ R.locals) ∧ c.exceptionTable.toList.map (fun h => (h.startPc, h.endPc, h.handlerPc, h.catchType)) = M.2.2.2.2 ∧ meth.name = M.1.name ∧ l.stackTraces = false ∧ gH0 A s
/-- an outcome, as the pure machine has it -/
def gO (κ : Nat → Nat) (t : State) (r : gR) (o : Outcome) : Prop := match r with
  | .inl v => o = .returned (v.map (gv κ))
  | .inr E => ∃ (x : Addr) (cell : Cell), o = .threw x ∧ t.heap[x]? = some cell ∧ cell.vm.isStatics = false ∧ t.vm.findClass E = some cell.cls
/-- the end of a method: an outcome and a world of which Q holds; the places of the first n0 cells are where they were -/
def gQ (A : Nat → Prop) (D : va_G) (dA : Nat → ClassId) (κ0 : Nat → Nat) (n0 : Nat) (Q : gR → gW → Prop) (s : State) (o : Outcome) (t : State) : Prop :=
  (∃ (κ : Nat → Nat) (r : gR) (w : gW), Q r w ∧ gO κ t r o ∧ va_P D gcls (gk dA κ w) t.heap ∧ va_D A (gk dA κ w) ∧ n0 ≤ w.length ∧ (w.length = n0 → κ = κ0) ∧ (∀ i, i < n0 → κ i = κ0 i)) ∧ va_F A s t
def gZ (below : List Frame) (s : State) (A : Nat → Prop) (D : va_G) (dA : Nat → ClassId) (κ0 : Nat → Nat) (n0 mc ms : Nat) (Q : gR → gW → Prop) : State → Prop := fun t =>
  ∃ o, t.status = .running ∧ Ended t below o ∧ gQ A D dA κ0 n0 Q s o t ∧ ∃ L, (s.WarmedH t.vm ∧ s.sameButNew ({ t with vm := s.vm } : State) L mc ms) ∧ ∀ q ∈ L, A q.base
/-- how the pure state lies in the machine's -/
def gI (M : gM) (ls : List (Option Value)) (w : gW) (k n : Nat) (R : Room) (s : State) (A : Nat → Prop) (D : va_G) (dA : Nat → ClassId) (κ0 : Nat → Nat) (n0 : Nat) (κ : Nat → Nat) (H : Heap) (locs : List Loc) (lsr : Array Slot) (cells slots : Nat) : Prop :=
  (n0 ≤ w.length ∧ (w.length = n0 → κ = κ0) ∧ (∀ i, i < n0 → κ i = κ0 i)) ∧ cells + k ≤ R.cells ∧ slots + n ≤ R.slots ∧ lv_has lsr M.2.2.1 (gas κ 0 ls) ∧ va_P D gcls (gk dA κ w) H ∧ va_D A (gk dA κ w) ∧ va_S A s.heap H locs
/-- THE JUDGEMENT: from the frame (pc, locals ls, stack st) and the world w, with d levels of calls, k cells and n slots left, the method comes to an end of which Q holds -/
def G (M : gM) (d : Nat × Nat) (pc : Nat) (ls : List (Option Value)) (st : List Value) (w : gW) (k n : Nat) (Q : gR → gW → Prop) : Prop :=
  ∀ p l e R s m args below meth c A D dA κ0 n0, gC M d p l R s m meth c A D dA → ∀ κ H locs lsr cells slots, gI M ls w k n R s A D dA κ0 n0 κ H locs lsr cells slots →
    W p l e R s m args below meth c H locs cells slots (gZ below s A D dA κ0 n0 R.cells R.slots Q) (F0 m pc lsr (st.map (gv κ)))
theorem G.mono {M : gM} {d : Nat × Nat} {pc : Nat} {ls : List (Option Value)} {st : List Value} {w : gW} {k n : Nat} {Q Q' : gR → gW → Prop} (h : ∀ r w, Q r w → Q' r w) (g : G M d pc ls st w k n Q) : G M d pc ls st w k n Q' := by
  intro p l e R s m args below meth c A D dA κ0 n0 C κ H locs lsr cells slots I T hT X
  obtain ⟨t, h1, o, h2, h3, ⟨⟨κ', r, w', hq, hr⟩, hF⟩, hL⟩ := g p l e R s m args below meth c A D dA κ0 n0 C κ H locs lsr cells slots I T hT X
  exact ⟨t, h1, o, h2, h3, ⟨⟨κ', r, w', h r w' hq, hr⟩, hF⟩, hL⟩
theorem G.less {M : gM} {d : Nat × Nat} {pc : Nat} {ls : List (Option Value)} {st : List Value} {w : gW} {k n k' n' : Nat} {Q : gR → gW → Prop} (h1 : k' ≤ k) (h2 : n' ≤ n) (g : G M d pc ls st w k' n' Q) : G M d pc ls st w k n Q := by
  intro p l e R s m args below meth c A D dA κ0 n0 C κ H locs lsr cells slots I
  exact g p l e R s m args below meth c A D dA κ0 n0 C κ H locs lsr cells slots ⟨I.1, by have := I.2.1; omega, by have := I.2.2.1; omega, I.2.2.2⟩
theorem g_iadd {M : gM} {d : Nat × Nat} {pc : Nat} {ls : List (Option Value)} {st : List Value} {w : gW} {k n : Nat} {Q : gR → gW → Prop} {x y : Int32} (hd : decode M.2.1 pc = .ok (.iadd, 1)) (kk : G M d (pc + 1) ls (.int (x + y) :: st) w k n Q) : G M d pc ls (.int y :: .int x :: st) w k n Q :=
  fun p l e R s m args below meth c A D dA κ0 n0 C κ H locs lsr cells slots I => lv_iadd C.1 C.2.1 hd (kk p l e R s m args below meth c A D dA κ0 n0 C κ H locs lsr cells slots I)
theorem g_isub {M : gM} {d : Nat × Nat} {pc : Nat} {ls : List (Option Value)} {st : List Value} {w : gW} {k n : Nat} {Q : gR → gW → Prop} {x y : Int32} (hd : decode M.2.1 pc = .ok (.isub, 1)) (kk : G M d (pc + 1) ls (.int (x - y) :: st) w k n Q) : G M d pc ls (.int y :: .int x :: st) w k n Q :=
  fun p l e R s m args below meth c A D dA κ0 n0 C κ H locs lsr cells slots I => lv_isub C.1 C.2.1 hd (kk p l e R s m args below meth c A D dA κ0 n0 C κ H locs lsr cells slots I)
theorem g_imul {M : gM} {d : Nat × Nat} {pc : Nat} {ls : List (Option Value)} {st : List Value} {w : gW} {k n : Nat} {Q : gR → gW → Prop} {x y : Int32} (hd : decode M.2.1 pc = .ok (.imul, 1)) (kk : G M d (pc + 1) ls (.int (x * y) :: st) w k n Q) : G M d pc ls (.int y :: .int x :: st) w k n Q :=
  fun p l e R s m args below meth c A D dA κ0 n0 C κ H locs lsr cells slots I => lv_imul C.1 C.2.1 hd (kk p l e R s m args below meth c A D dA κ0 n0 C κ H locs lsr cells slots I)
theorem g_iand {M : gM} {d : Nat × Nat} {pc : Nat} {ls : List (Option Value)} {st : List Value} {w : gW} {k n : Nat} {Q : gR → gW → Prop} {x y : Int32} (hd : decode M.2.1 pc = .ok (.iand, 1)) (kk : G M d (pc + 1) ls (.int (x &&& y) :: st) w k n Q) : G M d pc ls (.int y :: .int x :: st) w k n Q :=
  fun p l e R s m args below meth c A D dA κ0 n0 C κ H locs lsr cells slots I => lv_iand C.1 C.2.1 hd (kk p l e R s m args below meth c A D dA κ0 n0 C κ H locs lsr cells slots I)
theorem g_ior {M : gM} {d : Nat × Nat} {pc : Nat} {ls : List (Option Value)} {st : List Value} {w : gW} {k n : Nat} {Q : gR → gW → Prop} {x y : Int32} (hd : decode M.2.1 pc = .ok (.ior, 1)) (kk : G M d (pc + 1) ls (.int (x ||| y) :: st) w k n Q) : G M d pc ls (.int y :: .int x :: st) w k n Q :=
  fun p l e R s m args below meth c A D dA κ0 n0 C κ H locs lsr cells slots I => lv_ior C.1 C.2.1 hd (kk p l e R s m args below meth c A D dA κ0 n0 C κ H locs lsr cells slots I)
theorem g_ixor {M : gM} {d : Nat × Nat} {pc : Nat} {ls : List (Option Value)} {st : List Value} {w : gW} {k n : Nat} {Q : gR → gW → Prop} {x y : Int32} (hd : decode M.2.1 pc = .ok (.ixor, 1)) (kk : G M d (pc + 1) ls (.int (x ^^^ y) :: st) w k n Q) : G M d pc ls (.int y :: .int x :: st) w k n Q :=
  fun p l e R s m args below meth c A D dA κ0 n0 C κ H locs lsr cells slots I => lv_ixor C.1 C.2.1 hd (kk p l e R s m args below meth c A D dA κ0 n0 C κ H locs lsr cells slots I)
theorem g_ishl {M : gM} {d : Nat × Nat} {pc : Nat} {ls : List (Option Value)} {st : List Value} {w : gW} {k n : Nat} {Q : gR → gW → Prop} {x y : Int32} (hd : decode M.2.1 pc = .ok (.ishl, 1)) (kk : G M d (pc + 1) ls (.int (x <<< (y &&& 31)) :: st) w k n Q) : G M d pc ls (.int y :: .int x :: st) w k n Q :=
  fun p l e R s m args below meth c A D dA κ0 n0 C κ H locs lsr cells slots I => lv_ishl C.1 C.2.1 hd (kk p l e R s m args below meth c A D dA κ0 n0 C κ H locs lsr cells slots I)
theorem g_ishr {M : gM} {d : Nat × Nat} {pc : Nat} {ls : List (Option Value)} {st : List Value} {w : gW} {k n : Nat} {Q : gR → gW → Prop} {x y : Int32} (hd : decode M.2.1 pc = .ok (.ishr, 1)) (kk : G M d (pc + 1) ls (.int (x >>> (y &&& 31)) :: st) w k n Q) : G M d pc ls (.int y :: .int x :: st) w k n Q :=
  fun p l e R s m args below meth c A D dA κ0 n0 C κ H locs lsr cells slots I => lv_ishr C.1 C.2.1 hd (kk p l e R s m args below meth c A D dA κ0 n0 C κ H locs lsr cells slots I)
theorem g_iushr {M : gM} {d : Nat × Nat} {pc : Nat} {ls : List (Option Value)} {st : List Value} {w : gW} {k n : Nat} {Q : gR → gW → Prop} {x y : Int32} (hd : decode M.2.1 pc = .ok (.iushr, 1)) (kk : G M d (pc + 1) ls (.int ((x.toUInt32 >>> (y.toUInt32 &&& Int32.toUInt32 31)).toInt32) :: st) w k n Q) : G M d pc ls (.int y :: .int x :: st) w k n Q :=
  fun p l e R s m args below meth c A D dA κ0 n0 C κ H locs lsr cells slots I => lv_iushr C.1 C.2.1 hd rfl (kk p l e R s m args below meth c A D dA κ0 n0 C κ H locs lsr cells slots I)
theorem g_idiv {M : gM} {d : Nat × Nat} {pc : Nat} {ls : List (Option Value)} {st : List Value} {w : gW} {k n : Nat} {Q : gR → gW → Prop} {x y : Int32} (hd : decode M.2.1 pc = .ok (.idiv, 1)) (hne : ¬ y = 0) (kk : G M d (pc + 1) ls (.int (x / y) :: st) w k n Q) : G M d pc ls (.int y :: .int x :: st) w k n Q :=
  fun p l e R s m args below meth c A D dA κ0 n0 C κ H locs lsr cells slots I => lv_idiv C.1 C.2.1 hd hne (kk p l e R s m args below meth c A D dA κ0 n0 C κ H locs lsr cells slots I)
theorem g_irem {M : gM} {d : Nat × Nat} {pc : Nat} {ls : List (Option Value)} {st : List Value} {w : gW} {k n : Nat} {Q : gR → gW → Prop} {x y : Int32} (hd : decode M.2.1 pc = .ok (.irem, 1)) (hne : ¬ y = 0) (kk : G M d (pc + 1) ls (.int (x - x / y * y) :: st) w k n Q) : G M d pc ls (.int y :: .int x :: st) w k n Q :=
  fun p l e R s m args below meth c A D dA κ0 n0 C κ H locs lsr cells slots I => lv_irem C.1 C.2.1 hd hne (kk p l e R s m args below meth c A D dA κ0 n0 C κ H locs lsr cells slots I)
theorem g_ineg {M : gM} {d : Nat × Nat} {pc : Nat} {ls : List (Option Value)} {st : List Value} {w : gW} {k n : Nat} {Q : gR → gW → Prop} {x : Int32} (hd : decode M.2.1 pc = .ok (.ineg, 1)) (kk : G M d (pc + 1) ls (.int (-x) :: st) w k n Q) : G M d pc ls (.int x :: st) w k n Q :=
  fun p l e R s m args below meth c A D dA κ0 n0 C κ H locs lsr cells slots I => lv_ineg C.1 C.2.1 hd (kk p l e R s m args below meth c A D dA κ0 n0 C κ H locs lsr cells slots I)
theorem g_ladd {M : gM} {d : Nat × Nat} {pc : Nat} {ls : List (Option Value)} {st : List Value} {w : gW} {k n : Nat} {Q : gR → gW → Prop} {x y : Int64} (hd : decode M.2.1 pc = .ok (.ladd, 1)) (kk : G M d (pc + 1) ls (.long (x + y) :: st) w k n Q) : G M d pc ls (.long y :: .long x :: st) w k n Q :=
  fun p l e R s m args below meth c A D dA κ0 n0 C κ H locs lsr cells slots I => lv_ladd C.1 C.2.1 hd (kk p l e R s m args below meth c A D dA κ0 n0 C κ H locs lsr cells slots I)
theorem g_lsub {M : gM} {d : Nat × Nat} {pc : Nat} {ls : List (Option Value)} {st : List Value} {w : gW} {k n : Nat} {Q : gR → gW → Prop} {x y : Int64} (hd : decode M.2.1 pc = .ok (.lsub, 1)) (kk : G M d (pc + 1) ls (.long (x - y) :: st) w k n Q) : G M d pc ls (.long y :: .long x :: st) w k n Q :=
  fun p l e R s m args below meth c A D dA κ0 n0 C κ H locs lsr cells slots I => lv_lsub C.1 C.2.1 hd (kk p l e R s m args below meth c A D dA κ0 n0 C κ H locs lsr cells slots I)
theorem g_lmul {M : gM} {d : Nat × Nat} {pc : Nat} {ls : List (Option Value)} {st : List Value} {w : gW} {k n : Nat} {Q : gR → gW → Prop} {x y : Int64} (hd : decode M.2.1 pc = .ok (.lmul, 1)) (kk : G M d (pc + 1) ls (.long (x * y) :: st) w k n Q) : G M d pc ls (.long y :: .long x :: st) w k n Q :=
  fun p l e R s m args below meth c A D dA κ0 n0 C κ H locs lsr cells slots I => lv_lmul C.1 C.2.1 hd (kk p l e R s m args below meth c A D dA κ0 n0 C κ H locs lsr cells slots I)
theorem g_land {M : gM} {d : Nat × Nat} {pc : Nat} {ls : List (Option Value)} {st : List Value} {w : gW} {k n : Nat} {Q : gR → gW → Prop} {x y : Int64} (hd : decode M.2.1 pc = .ok (.land, 1)) (kk : G M d (pc + 1) ls (.long (x &&& y) :: st) w k n Q) : G M d pc ls (.long y :: .long x :: st) w k n Q :=
  fun p l e R s m args below meth c A D dA κ0 n0 C κ H locs lsr cells slots I => lv_land C.1 C.2.1 hd (kk p l e R s m args below meth c A D dA κ0 n0 C κ H locs lsr cells slots I)
theorem g_lor {M : gM} {d : Nat × Nat} {pc : Nat} {ls : List (Option Value)} {st : List Value} {w : gW} {k n : Nat} {Q : gR → gW → Prop} {x y : Int64} (hd : decode M.2.1 pc = .ok (.lor, 1)) (kk : G M d (pc + 1) ls (.long (x ||| y) :: st) w k n Q) : G M d pc ls (.long y :: .long x :: st) w k n Q :=
  fun p l e R s m args below meth c A D dA κ0 n0 C κ H locs lsr cells slots I => lv_lor C.1 C.2.1 hd (kk p l e R s m args below meth c A D dA κ0 n0 C κ H locs lsr cells slots I)
theorem g_lxor {M : gM} {d : Nat × Nat} {pc : Nat} {ls : List (Option Value)} {st : List Value} {w : gW} {k n : Nat} {Q : gR → gW → Prop} {x y : Int64} (hd : decode M.2.1 pc = .ok (.lxor, 1)) (kk : G M d (pc + 1) ls (.long (x ^^^ y) :: st) w k n Q) : G M d pc ls (.long y :: .long x :: st) w k n Q :=
  fun p l e R s m args below meth c A D dA κ0 n0 C κ H locs lsr cells slots I => lv_lxor C.1 C.2.1 hd (kk p l e R s m args below meth c A D dA κ0 n0 C κ H locs lsr cells slots I)
theorem g_lshl {M : gM} {d : Nat × Nat} {pc : Nat} {ls : List (Option Value)} {st : List Value} {w : gW} {k n : Nat} {Q : gR → gW → Prop} {x : Int64} {y : Int32} (hd : decode M.2.1 pc = .ok (.lshl, 1)) (kk : G M d (pc + 1) ls (.long (x <<< (y.toInt64 &&& 63)) :: st) w k n Q) : G M d pc ls (.int y :: .long x :: st) w k n Q :=
  fun p l e R s m args below meth c A D dA κ0 n0 C κ H locs lsr cells slots I => lv_lshl C.1 C.2.1 hd rfl (kk p l e R s m args below meth c A D dA κ0 n0 C κ H locs lsr cells slots I)
theorem g_lshr {M : gM} {d : Nat × Nat} {pc : Nat} {ls : List (Option Value)} {st : List Value} {w : gW} {k n : Nat} {Q : gR → gW → Prop} {x : Int64} {y : Int32} (hd : decode M.2.1 pc = .ok (.lshr, 1)) (kk : G M d (pc + 1) ls (.long (x >>> (y.toInt64 &&& 63)) :: st) w k n Q) : G M d pc ls (.int y :: .long x :: st) w k n Q :=
  fun p l e R s m args below meth c A D dA κ0 n0 C κ H locs lsr cells slots I => lv_lshr C.1 C.2.1 hd rfl (kk p l e R s m args below meth c A D dA κ0 n0 C κ H locs lsr cells slots I)
theorem g_lushr {M : gM} {d : Nat × Nat} {pc : Nat} {ls : List (Option Value)} {st : List Value} {w : gW} {k n : Nat} {Q : gR → gW → Prop} {x : Int64} {y : Int32} (hd : decode M.2.1 pc = .ok (.lushr, 1)) (kk : G M d (pc + 1) ls (.long ((x.toUInt64 >>> (y.toInt64.toUInt64 &&& Int64.toUInt64 63)).toInt64) :: st) w k n Q) : G M d pc ls (.int y :: .long x :: st) w k n Q :=
  fun p l e R s m args below meth c A D dA κ0 n0 C κ H locs lsr cells slots I => lv_lushr C.1 C.2.1 hd rfl (kk p l e R s m args below meth c A D dA κ0 n0 C κ H locs lsr cells slots I)
theorem g_i2l {M : gM} {d : Nat × Nat} {pc : Nat} {ls : List (Option Value)} {st : List Value} {w : gW} {k n : Nat} {Q : gR → gW → Prop} {x : Int32} (hd : decode M.2.1 pc = .ok (.i2l, 1)) (kk : G M d (pc + 1) ls (.long x.toInt64 :: st) w k n Q) : G M d pc ls (.int x :: st) w k n Q :=
  fun p l e R s m args below meth c A D dA κ0 n0 C κ H locs lsr cells slots I => lv_i2l C.1 C.2.1 hd rfl (kk p l e R s m args below meth c A D dA κ0 n0 C κ H locs lsr cells slots I)
theorem g_l2i {M : gM} {d : Nat × Nat} {pc : Nat} {ls : List (Option Value)} {st : List Value} {w : gW} {k n : Nat} {Q : gR → gW → Prop} {x : Int64} (hd : decode M.2.1 pc = .ok (.l2i, 1)) (kk : G M d (pc + 1) ls (.int x.toInt32 :: st) w k n Q) : G M d pc ls (.long x :: st) w k n Q :=
  fun p l e R s m args below meth c A D dA κ0 n0 C κ H locs lsr cells slots I => lv_l2i C.1 C.2.1 hd rfl (kk p l e R s m args below meth c A D dA κ0 n0 C κ H locs lsr cells slots I)
theorem g_i2b {M : gM} {d : Nat × Nat} {pc : Nat} {ls : List (Option Value)} {st : List Value} {w : gW} {k n : Nat} {Q : gR → gW → Prop} {x : Int32} (hd : decode M.2.1 pc = .ok (.i2b, 1)) (kk : G M d (pc + 1) ls (.int x.toInt8.toInt32 :: st) w k n Q) : G M d pc ls (.int x :: st) w k n Q :=
  fun p l e R s m args below meth c A D dA κ0 n0 C κ H locs lsr cells slots I => lv_i2b C.1 C.2.1 hd rfl (kk p l e R s m args below meth c A D dA κ0 n0 C κ H locs lsr cells slots I)
theorem g_i2s {M : gM} {d : Nat × Nat} {pc : Nat} {ls : List (Option Value)} {st : List Value} {w : gW} {k n : Nat} {Q : gR → gW → Prop} {x : Int32} (hd : decode M.2.1 pc = .ok (.i2s, 1)) (kk : G M d (pc + 1) ls (.int x.toInt16.toInt32 :: st) w k n Q) : G M d pc ls (.int x :: st) w k n Q :=
  fun p l e R s m args below meth c A D dA κ0 n0 C κ H locs lsr cells slots I => lv_i2s C.1 C.2.1 hd rfl (kk p l e R s m args below meth c A D dA κ0 n0 C κ H locs lsr cells slots I)
theorem g_i2c {M : gM} {d : Nat × Nat} {pc : Nat} {ls : List (Option Value)} {st : List Value} {w : gW} {k n : Nat} {Q : gR → gW → Prop} {x : Int32} (hd : decode M.2.1 pc = .ok (.i2c, 1)) (kk : G M d (pc + 1) ls (.int (x.toUInt32 % 65536).toInt32 :: st) w k n Q) : G M d pc ls (.int x :: st) w k n Q :=
  fun p l e R s m args below meth c A D dA κ0 n0 C κ H locs lsr cells slots I => lv_i2c C.1 C.2.1 hd rfl (kk p l e R s m args below meth c A D dA κ0 n0 C κ H locs lsr cells slots I)
theorem g_iconst {M : gM} {d : Nat × Nat} {pc : Nat} {ls : List (Option Value)} {st : List Value} {w : gW} {k n : Nat} {Q : gR → gW → Prop} {i : Int} {v : Int32} (hd : decode M.2.1 pc = .ok (.iconst i, 1)) (hv : Int32.ofInt i = v) (kk : G M d (pc + 1) ls (.int v :: st) w k n Q) : G M d pc ls (st) w k n Q :=
  fun p l e R s m args below meth c A D dA κ0 n0 C κ H locs lsr cells slots I => lv_iconst C.1 C.2.1 hd hv (kk p l e R s m args below meth c A D dA κ0 n0 C κ H locs lsr cells slots I)
theorem g_bipush {M : gM} {d : Nat × Nat} {pc : Nat} {ls : List (Option Value)} {st : List Value} {w : gW} {k n : Nat} {Q : gR → gW → Prop} {i : Int} {v : Int32} (hd : decode M.2.1 pc = .ok (.bipush i, 2)) (hv : (Int8.ofInt i).toInt32 = v) (kk : G M d (pc + 2) ls (.int v :: st) w k n Q) : G M d pc ls (st) w k n Q :=
  fun p l e R s m args below meth c A D dA κ0 n0 C κ H locs lsr cells slots I => lv_bipush C.1 C.2.1 hd hv (kk p l e R s m args below meth c A D dA κ0 n0 C κ H locs lsr cells slots I)
theorem g_sipush {M : gM} {d : Nat × Nat} {pc : Nat} {ls : List (Option Value)} {st : List Value} {w : gW} {k n : Nat} {Q : gR → gW → Prop} {i : Int} {v : Int32} (hd : decode M.2.1 pc = .ok (.sipush i, 3)) (hv : (Int16.ofInt i).toInt32 = v) (kk : G M d (pc + 3) ls (.int v :: st) w k n Q) : G M d pc ls (st) w k n Q :=
  fun p l e R s m args below meth c A D dA κ0 n0 C κ H locs lsr cells slots I => lv_sipush C.1 C.2.1 hd hv (kk p l e R s m args below meth c A D dA κ0 n0 C κ H locs lsr cells slots I)
theorem g_lconst {M : gM} {d : Nat × Nat} {pc : Nat} {ls : List (Option Value)} {st : List Value} {w : gW} {k n : Nat} {Q : gR → gW → Prop} {i : Fin 2} {v : Int64} (hd : decode M.2.1 pc = .ok (.lconst i, 1)) (hv : Int64.ofNat (i : Nat) = v) (kk : G M d (pc + 1) ls (.long v :: st) w k n Q) : G M d pc ls (st) w k n Q :=
  fun p l e R s m args below meth c A D dA κ0 n0 C κ H locs lsr cells slots I => lv_lconst C.1 C.2.1 hd hv (kk p l e R s m args below meth c A D dA κ0 n0 C κ H locs lsr cells slots I)
theorem g_lcmp {M : gM} {d : Nat × Nat} {pc : Nat} {ls : List (Option Value)} {st : List Value} {w : gW} {k n : Nat} {Q : gR → gW → Prop} {x y : Int64} (hd : decode M.2.1 pc = .ok (.lcmp, 1)) (kk : G M d (pc + 1) ls (.int (lg_cmp x y) :: st) w k n Q) : G M d pc ls (.long y :: .long x :: st) w k n Q :=
  fun p l e R s m args below meth c A D dA κ0 n0 C κ H locs lsr cells slots I => W.lcmp C.1 C.2.1 hd (kk p l e R s m args below meth c A D dA κ0 n0 C κ H locs lsr cells slots I)
theorem g_dup {M : gM} {d : Nat × Nat} {pc : Nat} {ls : List (Option Value)} {st : List Value} {w : gW} {k n : Nat} {Q : gR → gW → Prop} {u : Value} (hd : decode M.2.1 pc = .ok (.dup, 1)) (hu : u.category = 1) (kk : G M d (pc + 1) ls (u :: u :: st) w k n Q) : G M d pc ls (u :: st) w k n Q :=
  fun p l e R s m args below meth c A D dA κ0 n0 C κ H locs lsr cells slots I => lv_dup C.1 C.2.1 hd (by rw [gv_cat]; exact hu) (kk p l e R s m args below meth c A D dA κ0 n0 C κ H locs lsr cells slots I)
theorem g_pop {M : gM} {d : Nat × Nat} {pc : Nat} {ls : List (Option Value)} {st : List Value} {w : gW} {k n : Nat} {Q : gR → gW → Prop} {u : Value} (hd : decode M.2.1 pc = .ok (.pop, 1)) (hu : u.category = 1) (kk : G M d (pc + 1) ls (st) w k n Q) : G M d pc ls (u :: st) w k n Q :=
  fun p l e R s m args below meth c A D dA κ0 n0 C κ H locs lsr cells slots I => lv_pop C.1 C.2.1 hd (by rw [gv_cat]; exact hu) (kk p l e R s m args below meth c A D dA κ0 n0 C κ H locs lsr cells slots I)
theorem g_dup_x1 {M : gM} {d : Nat × Nat} {pc : Nat} {ls : List (Option Value)} {st : List Value} {w : gW} {k n : Nat} {Q : gR → gW → Prop} {u v : Value} (hd : decode M.2.1 pc = .ok (.dup_x1, 1)) (hu : u.category = 1) (hv : v.category = 1) (kk : G M d (pc + 1) ls (u :: v :: u :: st) w k n Q) : G M d pc ls (u :: v :: st) w k n Q :=
  fun p l e R s m args below meth c A D dA κ0 n0 C κ H locs lsr cells slots I => lv_dup_x1 C.1 C.2.1 hd (by rw [gv_cat]; exact hu) (by rw [gv_cat]; exact hv) (kk p l e R s m args below meth c A D dA κ0 n0 C κ H locs lsr cells slots I)
theorem g_dup_x2 {M : gM} {d : Nat × Nat} {pc : Nat} {ls : List (Option Value)} {st : List Value} {w : gW} {k n : Nat} {Q : gR → gW → Prop} {u v t : Value} (hd : decode M.2.1 pc = .ok (.dup_x2, 1)) (hu : u.category = 1) (hv : v.category = 1) (ht : t.category = 1) (kk : G M d (pc + 1) ls (u :: v :: t :: u :: st) w k n Q) : G M d pc ls (u :: v :: t :: st) w k n Q :=
  fun p l e R s m args below meth c A D dA κ0 n0 C κ H locs lsr cells slots I => lv_dup_x2 C.1 C.2.1 hd (by rw [gv_cat]; exact hu) (by rw [gv_cat]; exact hv) (by rw [gv_cat]; exact ht) (kk p l e R s m args below meth c A D dA κ0 n0 C κ H locs lsr cells slots I)
theorem g_dup2_11 {M : gM} {d : Nat × Nat} {pc : Nat} {ls : List (Option Value)} {st : List Value} {w : gW} {k n : Nat} {Q : gR → gW → Prop} {u v : Value} (hd : decode M.2.1 pc = .ok (.dup2, 1)) (hu : u.category = 1) (hv : v.category = 1) (kk : G M d (pc + 1) ls (u :: v :: u :: v :: st) w k n Q) : G M d pc ls (u :: v :: st) w k n Q :=
  fun p l e R s m args below meth c A D dA κ0 n0 C κ H locs lsr cells slots I => lv_dup2_11 C.1 C.2.1 hd (by rw [gv_cat]; exact hu) (by rw [gv_cat]; exact hv) (kk p l e R s m args below meth c A D dA κ0 n0 C κ H locs lsr cells slots I)
theorem g_dup2_2 {M : gM} {d : Nat × Nat} {pc : Nat} {ls : List (Option Value)} {st : List Value} {w : gW} {k n : Nat} {Q : gR → gW → Prop} {u : Value} (hd : decode M.2.1 pc = .ok (.dup2, 1)) (hu : u.category = 2) (kk : G M d (pc + 1) ls (u :: u :: st) w k n Q) : G M d pc ls (u :: st) w k n Q :=
  fun p l e R s m args below meth c A D dA κ0 n0 C κ H locs lsr cells slots I => lv_dup2_2 C.1 C.2.1 hd (by rw [gv_cat]; exact hu) (kk p l e R s m args below meth c A D dA κ0 n0 C κ H locs lsr cells slots I)
theorem g_pop2_2 {M : gM} {d : Nat × Nat} {pc : Nat} {ls : List (Option Value)} {st : List Value} {w : gW} {k n : Nat} {Q : gR → gW → Prop} {u : Value} (hd : decode M.2.1 pc = .ok (.pop2, 1)) (hu : u.category = 2) (kk : G M d (pc + 1) ls (st) w k n Q) : G M d pc ls (u :: st) w k n Q :=
  fun p l e R s m args below meth c A D dA κ0 n0 C κ H locs lsr cells slots I => lv_pop2_2 C.1 C.2.1 hd (by rw [gv_cat]; exact hu) (kk p l e R s m args below meth c A D dA κ0 n0 C κ H locs lsr cells slots I)
theorem g_iload_n {M : gM} {d : Nat × Nat} {pc : Nat} {ls : List (Option Value)} {st : List Value} {w : gW} {k n : Nat} {Q : gR → gW → Prop} {i : Fin 4} {j : Nat} {x : Int32} (hd : decode M.2.1 pc = .ok (.iload_n i, 1)) (hi : (i : Nat) = j) (hl : ls[j]? = some (some (.int x))) (kk : G M d (pc + 1) ls (.int x :: st) w k n Q) : G M d pc ls (st) w k n Q :=
  fun p l e R s m args below meth c A D dA κ0 n0 C κ H locs lsr cells slots I => lv_iload_n C.1 C.2.1 hd hi (gas_at I.2.2.2.1 hl) (kk p l e R s m args below meth c A D dA κ0 n0 C κ H locs lsr cells slots I)
theorem g_iload {M : gM} {d : Nat × Nat} {pc : Nat} {ls : List (Option Value)} {st : List Value} {w : gW} {k n : Nat} {Q : gR → gW → Prop} {j : Nat} {x : Int32} (hd : decode M.2.1 pc = .ok (.iload j, 2)) (hl : ls[j]? = some (some (.int x))) (kk : G M d (pc + 2) ls (.int x :: st) w k n Q) : G M d pc ls (st) w k n Q :=
  fun p l e R s m args below meth c A D dA κ0 n0 C κ H locs lsr cells slots I => lv_iload C.1 C.2.1 hd (gas_at I.2.2.2.1 hl) (kk p l e R s m args below meth c A D dA κ0 n0 C κ H locs lsr cells slots I)
theorem g_lload_n {M : gM} {d : Nat × Nat} {pc : Nat} {ls : List (Option Value)} {st : List Value} {w : gW} {k n : Nat} {Q : gR → gW → Prop} {i : Fin 4} {j : Nat} {x : Int64} (hd : decode M.2.1 pc = .ok (.lload_n i, 1)) (hi : (i : Nat) = j) (hl : ls[j]? = some (some (.long x))) (kk : G M d (pc + 1) ls (.long x :: st) w k n Q) : G M d pc ls (st) w k n Q :=
  fun p l e R s m args below meth c A D dA κ0 n0 C κ H locs lsr cells slots I => lv_lload_n C.1 C.2.1 hd hi (gas_at I.2.2.2.1 hl) (kk p l e R s m args below meth c A D dA κ0 n0 C κ H locs lsr cells slots I)
theorem g_lload {M : gM} {d : Nat × Nat} {pc : Nat} {ls : List (Option Value)} {st : List Value} {w : gW} {k n : Nat} {Q : gR → gW → Prop} {j : Nat} {x : Int64} (hd : decode M.2.1 pc = .ok (.lload j, 2)) (hl : ls[j]? = some (some (.long x))) (kk : G M d (pc + 2) ls (.long x :: st) w k n Q) : G M d pc ls (st) w k n Q :=
  fun p l e R s m args below meth c A D dA κ0 n0 C κ H locs lsr cells slots I => lv_lload C.1 C.2.1 hd (gas_at I.2.2.2.1 hl) (kk p l e R s m args below meth c A D dA κ0 n0 C κ H locs lsr cells slots I)
theorem g_aload_n {M : gM} {d : Nat × Nat} {pc : Nat} {ls : List (Option Value)} {st : List Value} {w : gW} {k n : Nat} {Q : gR → gW → Prop} {i : Fin 4} {j : Nat} {x : Nat} (hd : decode M.2.1 pc = .ok (.aload_n i, 1)) (hi : (i : Nat) = j) (hl : ls[j]? = some (some (.ref x))) (kk : G M d (pc + 1) ls (.ref x :: st) w k n Q) : G M d pc ls (st) w k n Q :=
  fun p l e R s m args below meth c A D dA κ0 n0 C κ H locs lsr cells slots I => lv_aload_n C.1 C.2.1 hd hi (gas_at I.2.2.2.1 hl) (kk p l e R s m args below meth c A D dA κ0 n0 C κ H locs lsr cells slots I)
theorem g_aload {M : gM} {d : Nat × Nat} {pc : Nat} {ls : List (Option Value)} {st : List Value} {w : gW} {k n : Nat} {Q : gR → gW → Prop} {j : Nat} {x : Nat} (hd : decode M.2.1 pc = .ok (.aload j, 2)) (hl : ls[j]? = some (some (.ref x))) (kk : G M d (pc + 2) ls (.ref x :: st) w k n Q) : G M d pc ls (st) w k n Q :=
  fun p l e R s m args below meth c A D dA κ0 n0 C κ H locs lsr cells slots I => lv_aload C.1 C.2.1 hd (gas_at I.2.2.2.1 hl) (kk p l e R s m args below meth c A D dA κ0 n0 C κ H locs lsr cells slots I)
theorem g_istore_n {M : gM} {d : Nat × Nat} {pc : Nat} {ls : List (Option Value)} {st : List Value} {w : gW} {k n : Nat} {Q : gR → gW → Prop} {i : Fin 4} {j : Nat} {x : Int32} (hd : decode M.2.1 pc = .ok (.istore_n i, 1)) (hi : (i : Nat) = j) (hn : j < M.2.2.1) (kk : G M d (pc + 1) (gs1 j (.int x) ls) st w k n Q) : G M d pc ls (.int x :: st) w k n Q :=
  fun p l e R s m args below meth c A D dA κ0 n0 C κ H locs lsr cells slots I => lv_istore_n C.1 C.2.1 hd hi I.2.2.2.1 hn rfl (fun ls' hl' => kk p l e R s m args below meth c A D dA κ0 n0 C κ H locs ls' cells slots ⟨I.1, I.2.1, I.2.2.1, gs1_has (v := .int x) hl', I.2.2.2.2⟩)
theorem g_istore {M : gM} {d : Nat × Nat} {pc : Nat} {ls : List (Option Value)} {st : List Value} {w : gW} {k n : Nat} {Q : gR → gW → Prop} {j : Nat} {x : Int32} (hd : decode M.2.1 pc = .ok (.istore j, 2)) (hn : j < M.2.2.1) (kk : G M d (pc + 2) (gs1 j (.int x) ls) st w k n Q) : G M d pc ls (.int x :: st) w k n Q :=
  fun p l e R s m args below meth c A D dA κ0 n0 C κ H locs lsr cells slots I => lv_istore C.1 C.2.1 hd I.2.2.2.1 hn rfl (fun ls' hl' => kk p l e R s m args below meth c A D dA κ0 n0 C κ H locs ls' cells slots ⟨I.1, I.2.1, I.2.2.1, gs1_has (v := .int x) hl', I.2.2.2.2⟩)
theorem g_lstore_n {M : gM} {d : Nat × Nat} {pc : Nat} {ls : List (Option Value)} {st : List Value} {w : gW} {k n : Nat} {Q : gR → gW → Prop} {i : Fin 4} {j : Nat} {x : Int64} (hd : decode M.2.1 pc = .ok (.lstore_n i, 1)) (hi : (i : Nat) = j) (hn : j + 1 < M.2.2.1) (kk : G M d (pc + 1) (gs2 j (.long x) ls) st w k n Q) : G M d pc ls (.long x :: st) w k n Q :=
  fun p l e R s m args below meth c A D dA κ0 n0 C κ H locs lsr cells slots I => lv_lstore_n C.1 C.2.1 hd hi I.2.2.2.1 hn rfl (fun ls' hl' => kk p l e R s m args below meth c A D dA κ0 n0 C κ H locs ls' cells slots ⟨I.1, I.2.1, I.2.2.1, gs2_has (v := .long x) hl', I.2.2.2.2⟩)
theorem g_lstore {M : gM} {d : Nat × Nat} {pc : Nat} {ls : List (Option Value)} {st : List Value} {w : gW} {k n : Nat} {Q : gR → gW → Prop} {j : Nat} {x : Int64} (hd : decode M.2.1 pc = .ok (.lstore j, 2)) (hn : j + 1 < M.2.2.1) (kk : G M d (pc + 2) (gs2 j (.long x) ls) st w k n Q) : G M d pc ls (.long x :: st) w k n Q :=
  fun p l e R s m args below meth c A D dA κ0 n0 C κ H locs lsr cells slots I => lv_lstore C.1 C.2.1 hd I.2.2.2.1 hn rfl (fun ls' hl' => kk p l e R s m args below meth c A D dA κ0 n0 C κ H locs ls' cells slots ⟨I.1, I.2.1, I.2.2.1, gs2_has (v := .long x) hl', I.2.2.2.2⟩)
theorem g_astore_n {M : gM} {d : Nat × Nat} {pc : Nat} {ls : List (Option Value)} {st : List Value} {w : gW} {k n : Nat} {Q : gR → gW → Prop} {i : Fin 4} {j : Nat} {x : Nat} (hd : decode M.2.1 pc = .ok (.astore_n i, 1)) (hi : (i : Nat) = j) (hn : j < M.2.2.1) (kk : G M d (pc + 1) (gs1 j (.ref x) ls) st w k n Q) : G M d pc ls (.ref x :: st) w k n Q :=
  fun p l e R s m args below meth c A D dA κ0 n0 C κ H locs lsr cells slots I => lv_astore_n C.1 C.2.1 hd hi I.2.2.2.1 hn rfl (fun ls' hl' => kk p l e R s m args below meth c A D dA κ0 n0 C κ H locs ls' cells slots ⟨I.1, I.2.1, I.2.2.1, gs1_has (v := .ref x) hl', I.2.2.2.2⟩)
theorem g_astore {M : gM} {d : Nat × Nat} {pc : Nat} {ls : List (Option Value)} {st : List Value} {w : gW} {k n : Nat} {Q : gR → gW → Prop} {j : Nat} {x : Nat} (hd : decode M.2.1 pc = .ok (.astore j, 2)) (hn : j < M.2.2.1) (kk : G M d (pc + 2) (gs1 j (.ref x) ls) st w k n Q) : G M d pc ls (.ref x :: st) w k n Q :=
  fun p l e R s m args below meth c A D dA κ0 n0 C κ H locs lsr cells slots I => lv_astore C.1 C.2.1 hd I.2.2.2.1 hn rfl (fun ls' hl' => kk p l e R s m args below meth c A D dA κ0 n0 C κ H locs ls' cells slots ⟨I.1, I.2.1, I.2.2.1, gs1_has (v := .ref x) hl', I.2.2.2.2⟩)
theorem g_iinc {M : gM} {d : Nat × Nat} {pc : Nat} {ls : List (Option Value)} {st : List Value} {w : gW} {k n : Nat} {Q : gR → gW → Prop} {i : Nat} {j : Int} {x v : Int32} (hd : decode M.2.1 pc = .ok (.iinc i j, 3)) (hl : ls[i]? = some (some (.int x))) (hn : i < M.2.2.1) (hv : x + Int32.ofInt j = v) (kk : G M d (pc + 3) (gs1 i (.int v) ls) st w k n Q) : G M d pc ls st w k n Q := by
  intro p l e R s m args below meth c A D dA κ0 n0 C κ H locs lsr cells slots I
  obtain ⟨q, hq⟩ := List.getElem?_of_mem ((gas_mem κ ls 0 (i, gv κ (.int x))).mpr ⟨i, _, hl, by simp⟩)
  exact lv_iinc C.1 C.2.1 hd I.2.2.2.1 hq hv hn rfl (fun ls' hl' => kk p l e R s m args below meth c A D dA κ0 n0 C κ H locs ls' cells slots ⟨I.1, I.2.1, I.2.2.1, gs1_has (v := .int v) hl', I.2.2.2.2⟩)
theorem g_if_eq {M : gM} {d : Nat × Nat} {pc : Nat} {ls : List (Option Value)} {st : List Value} {w : gW} {k n : Nat} {Q : gR → gW → Prop} {x : Int32} {off : Int} {tgt : Nat} (hd : decode M.2.1 pc = .ok (.ifCond .eq off, 3)) (ht : (pc : Int) + off = (tgt : Int)) (kt : x = 0 → G M d tgt ls st w k n Q) (kf : ¬ x = 0 → G M d (pc + 3) ls st w k n Q) : G M d pc ls (.int x :: st) w k n Q :=
  fun p l e R s m args below meth c A D dA κ0 n0 C κ H locs lsr cells slots I => lv_if_eq C.1 C.2.1 hd ht (fun h => kt h p l e R s m args below meth c A D dA κ0 n0 C κ H locs lsr cells slots I) (fun h => kf h p l e R s m args below meth c A D dA κ0 n0 C κ H locs lsr cells slots I)
theorem g_if_ne {M : gM} {d : Nat × Nat} {pc : Nat} {ls : List (Option Value)} {st : List Value} {w : gW} {k n : Nat} {Q : gR → gW → Prop} {x : Int32} {off : Int} {tgt : Nat} (hd : decode M.2.1 pc = .ok (.ifCond .ne off, 3)) (ht : (pc : Int) + off = (tgt : Int)) (kt : ¬ x = 0 → G M d tgt ls st w k n Q) (kf : x = 0 → G M d (pc + 3) ls st w k n Q) : G M d pc ls (.int x :: st) w k n Q :=
  fun p l e R s m args below meth c A D dA κ0 n0 C κ H locs lsr cells slots I => lv_if_ne C.1 C.2.1 hd ht (fun h => kt h p l e R s m args below meth c A D dA κ0 n0 C κ H locs lsr cells slots I) (fun h => kf h p l e R s m args below meth c A D dA κ0 n0 C κ H locs lsr cells slots I)
theorem g_if_lt {M : gM} {d : Nat × Nat} {pc : Nat} {ls : List (Option Value)} {st : List Value} {w : gW} {k n : Nat} {Q : gR → gW → Prop} {x : Int32} {off : Int} {tgt : Nat} (hd : decode M.2.1 pc = .ok (.ifCond .lt off, 3)) (ht : (pc : Int) + off = (tgt : Int)) (kt : x < 0 → G M d tgt ls st w k n Q) (kf : ¬ x < 0 → G M d (pc + 3) ls st w k n Q) : G M d pc ls (.int x :: st) w k n Q :=
  fun p l e R s m args below meth c A D dA κ0 n0 C κ H locs lsr cells slots I => lv_if_lt C.1 C.2.1 hd ht (fun h => kt h p l e R s m args below meth c A D dA κ0 n0 C κ H locs lsr cells slots I) (fun h => kf h p l e R s m args below meth c A D dA κ0 n0 C κ H locs lsr cells slots I)
theorem g_if_ge {M : gM} {d : Nat × Nat} {pc : Nat} {ls : List (Option Value)} {st : List Value} {w : gW} {k n : Nat} {Q : gR → gW → Prop} {x : Int32} {off : Int} {tgt : Nat} (hd : decode M.2.1 pc = .ok (.ifCond .ge off, 3)) (ht : (pc : Int) + off = (tgt : Int)) (kt : 0 ≤ x → G M d tgt ls st w k n Q) (kf : ¬ 0 ≤ x → G M d (pc + 3) ls st w k n Q) : G M d pc ls (.int x :: st) w k n Q :=
  fun p l e R s m args below meth c A D dA κ0 n0 C κ H locs lsr cells slots I => lv_if_ge C.1 C.2.1 hd ht (fun h => kt h p l e R s m args below meth c A D dA κ0 n0 C κ H locs lsr cells slots I) (fun h => kf h p l e R s m args below meth c A D dA κ0 n0 C κ H locs lsr cells slots I)
theorem g_if_gt {M : gM} {d : Nat × Nat} {pc : Nat} {ls : List (Option Value)} {st : List Value} {w : gW} {k n : Nat} {Q : gR → gW → Prop} {x : Int32} {off : Int} {tgt : Nat} (hd : decode M.2.1 pc = .ok (.ifCond .gt off, 3)) (ht : (pc : Int) + off = (tgt : Int)) (kt : 0 < x → G M d tgt ls st w k n Q) (kf : ¬ 0 < x → G M d (pc + 3) ls st w k n Q) : G M d pc ls (.int x :: st) w k n Q :=
  fun p l e R s m args below meth c A D dA κ0 n0 C κ H locs lsr cells slots I => lv_if_gt C.1 C.2.1 hd ht (fun h => kt h p l e R s m args below meth c A D dA κ0 n0 C κ H locs lsr cells slots I) (fun h => kf h p l e R s m args below meth c A D dA κ0 n0 C κ H locs lsr cells slots I)
theorem g_if_le {M : gM} {d : Nat × Nat} {pc : Nat} {ls : List (Option Value)} {st : List Value} {w : gW} {k n : Nat} {Q : gR → gW → Prop} {x : Int32} {off : Int} {tgt : Nat} (hd : decode M.2.1 pc = .ok (.ifCond .le off, 3)) (ht : (pc : Int) + off = (tgt : Int)) (kt : x ≤ 0 → G M d tgt ls st w k n Q) (kf : ¬ x ≤ 0 → G M d (pc + 3) ls st w k n Q) : G M d pc ls (.int x :: st) w k n Q :=
  fun p l e R s m args below meth c A D dA κ0 n0 C κ H locs lsr cells slots I => lv_if_le C.1 C.2.1 hd ht (fun h => kt h p l e R s m args below meth c A D dA κ0 n0 C κ H locs lsr cells slots I) (fun h => kf h p l e R s m args below meth c A D dA κ0 n0 C κ H locs lsr cells slots I)
theorem g_icmp_eq {M : gM} {d : Nat × Nat} {pc : Nat} {ls : List (Option Value)} {st : List Value} {w : gW} {k n : Nat} {Q : gR → gW → Prop} {x y : Int32} {off : Int} {tgt : Nat} (hd : decode M.2.1 pc = .ok (.if_icmp .eq off, 3)) (ht : (pc : Int) + off = (tgt : Int)) (kt : x = y → G M d tgt ls st w k n Q) (kf : ¬ x = y → G M d (pc + 3) ls st w k n Q) : G M d pc ls (.int y :: .int x :: st) w k n Q :=
  fun p l e R s m args below meth c A D dA κ0 n0 C κ H locs lsr cells slots I => lv_icmp_eq C.1 C.2.1 hd ht (fun h => kt h p l e R s m args below meth c A D dA κ0 n0 C κ H locs lsr cells slots I) (fun h => kf h p l e R s m args below meth c A D dA κ0 n0 C κ H locs lsr cells slots I)
theorem g_icmp_ne {M : gM} {d : Nat × Nat} {pc : Nat} {ls : List (Option Value)} {st : List Value} {w : gW} {k n : Nat} {Q : gR → gW → Prop} {x y : Int32} {off : Int} {tgt : Nat} (hd : decode M.2.1 pc = .ok (.if_icmp .ne off, 3)) (ht : (pc : Int) + off = (tgt : Int)) (kt : ¬ x = y → G M d tgt ls st w k n Q) (kf : x = y → G M d (pc + 3) ls st w k n Q) : G M d pc ls (.int y :: .int x :: st) w k n Q :=
  fun p l e R s m args below meth c A D dA κ0 n0 C κ H locs lsr cells slots I => lv_icmp_ne C.1 C.2.1 hd ht (fun h => kt h p l e R s m args below meth c A D dA κ0 n0 C κ H locs lsr cells slots I) (fun h => kf h p l e R s m args below meth c A D dA κ0 n0 C κ H locs lsr cells slots I)
theorem g_icmp_lt {M : gM} {d : Nat × Nat} {pc : Nat} {ls : List (Option Value)} {st : List Value} {w : gW} {k n : Nat} {Q : gR → gW → Prop} {x y : Int32} {off : Int} {tgt : Nat} (hd : decode M.2.1 pc = .ok (.if_icmp .lt off, 3)) (ht : (pc : Int) + off = (tgt : Int)) (kt : x < y → G M d tgt ls st w k n Q) (kf : ¬ x < y → G M d (pc + 3) ls st w k n Q) : G M d pc ls (.int y :: .int x :: st) w k n Q :=
  fun p l e R s m args below meth c A D dA κ0 n0 C κ H locs lsr cells slots I => lv_icmp_lt C.1 C.2.1 hd ht (fun h => kt h p l e R s m args below meth c A D dA κ0 n0 C κ H locs lsr cells slots I) (fun h => kf h p l e R s m args below meth c A D dA κ0 n0 C κ H locs lsr cells slots I)
theorem g_icmp_ge {M : gM} {d : Nat × Nat} {pc : Nat} {ls : List (Option Value)} {st : List Value} {w : gW} {k n : Nat} {Q : gR → gW → Prop} {x y : Int32} {off : Int} {tgt : Nat} (hd : decode M.2.1 pc = .ok (.if_icmp .ge off, 3)) (ht : (pc : Int) + off = (tgt : Int)) (kt : y ≤ x → G M d tgt ls st w k n Q) (kf : ¬ y ≤ x → G M d (pc + 3) ls st w k n Q) : G M d pc ls (.int y :: .int x :: st) w k n Q :=
  fun p l e R s m args below meth c A D dA κ0 n0 C κ H locs lsr cells slots I => lv_icmp_ge C.1 C.2.1 hd ht (fun h => kt h p l e R s m args below meth c A D dA κ0 n0 C κ H locs lsr cells slots I) (fun h => kf h p l e R s m args below meth c A D dA κ0 n0 C κ H locs lsr cells slots I)
theorem g_icmp_gt {M : gM} {d : Nat × Nat} {pc : Nat} {ls : List (Option Value)} {st : List Value} {w : gW} {k n : Nat} {Q : gR → gW → Prop} {x y : Int32} {off : Int} {tgt : Nat} (hd : decode M.2.1 pc = .ok (.if_icmp .gt off, 3)) (ht : (pc : Int) + off = (tgt : Int)) (kt : y < x → G M d tgt ls st w k n Q) (kf : ¬ y < x → G M d (pc + 3) ls st w k n Q) : G M d pc ls (.int y :: .int x :: st) w k n Q :=
  fun p l e R s m args below meth c A D dA κ0 n0 C κ H locs lsr cells slots I => lv_icmp_gt C.1 C.2.1 hd ht (fun h => kt h p l e R s m args below meth c A D dA κ0 n0 C κ H locs lsr cells slots I) (fun h => kf h p l e R s m args below meth c A D dA κ0 n0 C κ H locs lsr cells slots I)
theorem g_icmp_le {M : gM} {d : Nat × Nat} {pc : Nat} {ls : List (Option Value)} {st : List Value} {w : gW} {k n : Nat} {Q : gR → gW → Prop} {x y : Int32} {off : Int} {tgt : Nat} (hd : decode M.2.1 pc = .ok (.if_icmp .le off, 3)) (ht : (pc : Int) + off = (tgt : Int)) (kt : x ≤ y → G M d tgt ls st w k n Q) (kf : ¬ x ≤ y → G M d (pc + 3) ls st w k n Q) : G M d pc ls (.int y :: .int x :: st) w k n Q :=
  fun p l e R s m args below meth c A D dA κ0 n0 C κ H locs lsr cells slots I => lv_icmp_le C.1 C.2.1 hd ht (fun h => kt h p l e R s m args below meth c A D dA κ0 n0 C κ H locs lsr cells slots I) (fun h => kf h p l e R s m args below meth c A D dA κ0 n0 C κ H locs lsr cells slots I)
theorem g_goto {M : gM} {d : Nat × Nat} {pc : Nat} {ls : List (Option Value)} {st : List Value} {w : gW} {k n : Nat} {Q : gR → gW → Prop} {off : Int} {tgt : Nat} (hd : decode M.2.1 pc = .ok (.goto off, 3)) (ht : (pc : Int) + off = (tgt : Int)) (kk : G M d tgt ls st w k n Q) : G M d pc ls st w k n Q :=
  fun p l e R s m args below meth c A D dA κ0 n0 C κ H locs lsr cells slots I => lv_goto C.1 C.2.1 hd ht (kk p l e R s m args below meth c A D dA κ0 n0 C κ H locs lsr cells slots I)
theorem g_tableOut {M : gM} {d : Nat × Nat} {pc : Nat} {ls : List (Option Value)} {st : List Value} {w : gW} {k n : Nat} {Q : gR → gW → Prop} {dflt lo hi : Int} {offs : Array Int} {len : Nat} {x : Int32} {tgt : Nat} (hd : decode M.2.1 pc = .ok (.tableswitch dflt lo hi offs, len)) (h : x.toInt < lo ∨ hi < x.toInt) (ht : (pc : Int) + dflt = (tgt : Int)) (kk : G M d tgt ls st w k n Q) : G M d pc ls (.int x :: st) w k n Q :=
  fun p l e R s m args below meth c A D dA κ0 n0 C κ H locs lsr cells slots I => lv_tableOut C.1 C.2.1 hd h ht (kk p l e R s m args below meth c A D dA κ0 n0 C κ H locs lsr cells slots I)
theorem g_tableIn {M : gM} {d : Nat × Nat} {pc : Nat} {ls : List (Option Value)} {st : List Value} {w : gW} {k n : Nat} {Q : gR → gW → Prop} {dflt lo hi : Int} {offs : Array Int} {len : Nat} {x : Int32} {off : Int} {tgt : Nat} (hd : decode M.2.1 pc = .ok (.tableswitch dflt lo hi offs, len)) (h1 : ¬ x.toInt < lo) (h2 : ¬ hi < x.toInt) (ho : offs[(x.toInt - lo).toNat]? = some off) (ht : (pc : Int) + off = (tgt : Int)) (kk : G M d tgt ls st w k n Q) : G M d pc ls (.int x :: st) w k n Q :=
  fun p l e R s m args below meth c A D dA κ0 n0 C κ H locs lsr cells slots I => lv_tableIn C.1 C.2.1 hd h1 h2 ho ht (kk p l e R s m args below meth c A D dA κ0 n0 C κ H locs lsr cells slots I)
theorem g_lookup {M : gM} {d : Nat × Nat} {pc : Nat} {ls : List (Option Value)} {st : List Value} {w : gW} {k n : Nat} {Q : gR → gW → Prop} {dflt : Int} {ps : Array (Int × Int)} {len : Nat} {x : Int32} {off : Int} {tgt : Nat} (hd : decode M.2.1 pc = .ok (.lookupswitch dflt ps, len)) (hp : (ps.toList.zip (ps.toList.drop 1)).all (fun (a, next) => a.1 < next.1) = true) (ho : Op.lookupswitch.offset ps.toList dflt x.toInt = off) (ht : (pc : Int) + off = (tgt : Int)) (kk : G M d tgt ls st w k n Q) : G M d pc ls (.int x :: st) w k n Q :=
  fun p l e R s m args below meth c A D dA κ0 n0 C κ H locs lsr cells slots I => lv_lookup C.1 C.2.1 hd hp ho ht (kk p l e R s m args below meth c A D dA κ0 n0 C κ H locs lsr cells slots I)
theorem g_topi {M : gM} {d : Nat × Nat} {pc : Nat} {ls : List (Option Value)} {st : List Value} {w : gW} {k n : Nat} {Q : gR → gW → Prop} {x : Int32} (kk : ∀ y : Int32, y = x → G M d pc ls (.int y :: st) w k n Q) : G M d pc ls (.int x :: st) w k n Q := kk x rfl
theorem g_topl {M : gM} {d : Nat × Nat} {pc : Nat} {ls : List (Option Value)} {st : List Value} {w : gW} {k n : Nat} {Q : gR → gW → Prop} {x : Int64} (kk : ∀ y : Int64, y = x → G M d pc ls (.long y :: st) w k n Q) : G M d pc ls (.long x :: st) w k n Q := kk x rfl
theorem g_eqi {M : gM} {d : Nat × Nat} {pc : Nat} {ls : List (Option Value)} {st : List Value} {w : gW} {k n : Nat} {Q : gR → gW → Prop} {x y : Int32} (h : x = y) (kk : G M d pc ls (.int y :: st) w k n Q) : G M d pc ls (.int x :: st) w k n Q := h ▸ kk
theorem g_eql {M : gM} {d : Nat × Nat} {pc : Nat} {ls : List (Option Value)} {st : List Value} {w : gW} {k n : Nat} {Q : gR → gW → Prop} {x y : Int64} (h : x = y) (kk : G M d pc ls (.long y :: st) w k n Q) : G M d pc ls (.long x :: st) w k n Q := h ▸ kk
theorem g_ldc {M : gM} {d : Nat × Nat} {pc : Nat} {ls : List (Option Value)} {st : List Value} {w : gW} {k n : Nat} {Q : gR → gW → Prop} {j : Nat} {v : Int32} (hd : decode M.2.1 pc = .ok (.ldc j, 2)) (hc : Cond.constant M.1.cls j v ∈ gT) (kk : G M d (pc + 2) ls (.int v :: st) w k n Q) : G M d pc ls st w k n Q :=
  fun p l e R s m args below meth c A D dA κ0 n0 C κ H locs lsr cells slots I => lv_ldc C.1 C.2.1 C.2.2.2.2.1 (C.2.2.2.2.2.1 _ hc _) hd (kk p l e R s m args below meth c A D dA κ0 n0 C κ H locs lsr cells slots I)
theorem g_ldc2 {M : gM} {d : Nat × Nat} {pc : Nat} {ls : List (Option Value)} {st : List Value} {w : gW} {k n : Nat} {Q : gR → gW → Prop} {j : Nat} {v : Int64} (hd : decode M.2.1 pc = .ok (.ldc2_w j, 3)) (hc : Cond.constantLong M.1.cls j v ∈ gT) (kk : G M d (pc + 3) ls (.long v :: st) w k n Q) : G M d pc ls st w k n Q :=
  fun p l e R s m args below meth c A D dA κ0 n0 C κ H locs lsr cells slots I => lv_ldc2 C.1 C.2.1 C.2.2.2.2.1 (C.2.2.2.2.2.1 _ hc _) hd (kk p l e R s m args below meth c A D dA κ0 n0 C κ H locs lsr cells slots I)
theorem gts {s : State} {args : Array Value} (h : gHT s) : ∀ x ∈ gT, x.before args s = true := fun x hx => h x hx args
/-- a field's place behind a pool number -/
def gF (own : String) (index ci j : Nat) : Prop := ∃ (C : String) (T : u_T) (N : Nat), gcls[ci]? = some (C, T, N) ∧ j < N ∧ (∀ x ∈ u_ws C T N, x ∈ gT) ∧
  (Cond.fieldLink own index (T j).1 (T j).2.1 (T j).2.2.1 ∈ gT ∨ ∃ host, Cond.fieldLinkNest own index (T j).1 (T j).2.1 (T j).2.2.1 host ∈ gT)
def gFp (own : String) (index ci j : Nat) (ty : FieldType) : Prop := ∃ (C : String) (T : u_T) (N : Nat) (ty0 : Nat → FieldType), gcls[ci]? = some (C, T, N) ∧ j < N ∧ (∀ x ∈ u_ws C T N, x ∈ gT) ∧
  (∀ k, k < N → parseFieldDescriptor (T k).2.2.1 = some (ty0 k)) ∧ (∀ a, a < N → ∀ b, b < N → a ≠ b → (T a).2.1 ≠ (T b).2.1) ∧ parseFieldDescriptor (T j).2.2.1 = some ty ∧
  (((T j).2.2.2 = false ∧ (Cond.fieldLink own index (T j).1 (T j).2.1 (T j).2.2.1 ∈ gT ∨ ∃ host, Cond.fieldLinkNest own index (T j).1 (T j).2.1 (T j).2.2.1 host ∈ gT)))
def gFf (own : String) (index ci j : Nat) (ty : FieldType) : Prop := ∃ (C : String) (T : u_T) (N : Nat) (ty0 : Nat → FieldType), gcls[ci]? = some (C, T, N) ∧ j < N ∧ (∀ x ∈ u_ws C T N, x ∈ gT) ∧
  (∀ k, k < N → parseFieldDescriptor (T k).2.2.1 = some (ty0 k)) ∧ (∀ a, a < N → ∀ b, b < N → a ≠ b → (T a).2.1 ≠ (T b).2.1) ∧ parseFieldDescriptor (T j).2.2.1 = some ty ∧
  (T j).2.2.2 = true ∧ (T j).1 = own ∧ Cond.fieldLink own index (T j).1 (T j).2.1 (T j).2.2.1 ∈ gT
section GW
variable {M : gM} {d : Nat × Nat} {pc : Nat} {ls : List (Option Value)} {st : List Value} {w : gW} {k n : Nat} {Q : gR → gW → Prop}
theorem g_get {a index ci j : Nat} {fs : List Value} {v : Value} (hd : decode M.2.1 pc = .ok (.getfield index, 3)) (hf : gF M.1.cls index ci j) (he : w[a]? = some (.inr (ci, fs))) (hv : fs[j]? = some v) (kk : G M d (pc + 3) ls (v :: st) w k n Q) : G M d pc ls (.ref a :: st) w k n Q := by
  intro p l e R s m args below meth c A D dA κ0 n0 C κ H locs lsr cells slots I
  obtain ⟨C', T, N, h1, h2, h3, h4⟩ := hf
  have hts := gts (args := args) C.2.2.2.2.2.1
  have hv' : (fs.map (gv κ))[j]? = some (gv κ v) := by rw [List.getElem?_map, hv]; rfl
  rcases h4 with h4 | ⟨host, h4⟩
  · exact va_get (D := D) C.1 C.2.1 hts h3 C.2.2.2.2.1 C.2.2.2.2.2.2.1 I.2.2.2.2.1 a (gk_get he) h1 j h2 (hts _ h4) (fun _ h => h) hv' hd (kk p l e R s m args below meth c A D dA κ0 n0 C κ H locs lsr cells slots I)
  · exact va_getN (D := D) C.1 C.2.1 hts h3 C.2.2.2.2.1 C.2.2.2.2.2.2.1 I.2.2.2.2.1 a (gk_get he) h1 j h2 (hts _ h4) (fun _ h => h) hv' hd (kk p l e R s m args below meth c A D dA κ0 n0 C κ H locs lsr cells slots I)
theorem gI_set {R : Room} {s : State} {A : Nat → Prop} {D : va_G} {dA : Nat → ClassId} {κ0 κ : Nat → Nat} {n0 : Nat} {H H1 : Heap} {locs locs1 : List Loc} {lsr : Array Slot} {cells slots a : Nat} {e1 : gE} {e2 : va_E} (I : gI M ls w k n R s A D dA κ0 n0 κ H locs lsr cells slots) (he : ge dA κ e1 = e2)
    (hP : va_P D gcls ((gk dA κ w).set a (κ a, e2)) H1) (hD : va_D A ((gk dA κ w).set a (κ a, e2))) (hS : va_S A s.heap H1 locs1) : gI M ls (w.set a e1) k n R s A D dA κ0 n0 κ H1 locs1 lsr cells slots := by
  subst he
  rw [← gk_set] at hP hD
  exact ⟨⟨by rw [List.length_set]; exact I.1.1, by rw [List.length_set]; exact I.1.2.1, I.1.2.2⟩, I.2.1, I.2.2.1, I.2.2.2.1, hP, hD, hS⟩
theorem g_put {a index ci j : Nat} {fs : List Value} {v : Value} {ty : FieldType} (hd : decode M.2.1 pc = .ok (.putfield index, 3)) (hf : gFp M.1.cls index ci j ty) (he : w[a]? = some (.inr (ci, fs))) (hl : j < fs.length) (hn : ∀ κ, narrow ty (gv κ v) = gv κ v) (hfit : ∀ κ, fits ty (gv κ v) = true) (kk : G M d (pc + 3) ls st (w.set a (.inr (ci, fs.set j v))) k n Q) : G M d pc ls (v :: .ref a :: st) w k n Q := by
  intro p l e R s m args below meth c A D dA κ0 n0 C κ H locs lsr cells slots I
  obtain ⟨C', T, N, ty0, h1, h2, h3, h5, h6, h7, h8, h4⟩ := hf
  have hts := gts (args := args) C.2.2.2.2.2.1
  have hm : ge dA κ (.inr (ci, fs.set j v)) = .inr (ci, (fs.map (gv κ)).set j (gv κ v)) := by simp [ge, List.map_set]
  have hl' : j < (fs.map (gv κ)).length := by rw [List.length_map]; exact hl
  rcases h4 with h4 | ⟨host, h4⟩
  · exact va_put (D := D) C.1 C.2.1 hts h3 ty0 h5 h6 C.2.2.2.2.1 C.2.2.2.2.2.2.1 I.2.2.2.2.1 I.2.2.2.2.2.1 I.2.2.2.2.2.2 a (gk_get he) h1 j h2 (hts _ h4) (fun _ h => h) h8 h7 (hn κ) (hfit κ) hl' hd (fun H1 locs1 hP hD hS => kk p l e R s m args below meth c A D dA κ0 n0 C κ H1 locs1 lsr cells slots (gI_set I hm hP hD hS))
  · exact va_putN (D := D) C.1 C.2.1 hts h3 ty0 h5 h6 C.2.2.2.2.1 C.2.2.2.2.2.2.1 I.2.2.2.2.1 I.2.2.2.2.2.1 I.2.2.2.2.2.2 a (gk_get he) h1 j h2 (hts _ h4) (fun _ h => h) h8 h7 (hn κ) (hfit κ) hl' hd (fun H1 locs1 hP hD hS => kk p l e R s m args below meth c A D dA κ0 n0 C κ H1 locs1 lsr cells slots (gI_set I hm hP hD hS))
theorem g_putF {a index ci j : Nat} {fs : List Value} {v : Value} {ty : FieldType} (hd : decode M.2.1 pc = .ok (.putfield index, 3)) (hin : M.1.name = "<init>") (hf : gFf M.1.cls index ci j ty) (he : w[a]? = some (.inr (ci, fs))) (hl : j < fs.length) (hn : ∀ κ, narrow ty (gv κ v) = gv κ v) (hfit : ∀ κ, fits ty (gv κ v) = true) (kk : G M d (pc + 3) ls st (w.set a (.inr (ci, fs.set j v))) k n Q) : G M d pc ls (v :: .ref a :: st) w k n Q := by
  intro p l e R s m args below meth c A D dA κ0 n0 C κ H locs lsr cells slots I
  obtain ⟨C', T, N, ty0, h1, h2, h3, h5, h6, h7, h8, h9, h4⟩ := hf
  have hts := gts (args := args) C.2.2.2.2.2.1
  have hm : ge dA κ (.inr (ci, fs.set j v)) = .inr (ci, (fs.map (gv κ)).set j (gv κ v)) := by simp [ge, List.map_set]
  have hl' : j < (fs.map (gv κ)).length := by rw [List.length_map]; exact hl
  exact va_putF (D := D) C.1 C.2.1 hts h3 ty0 h5 h6 C.2.2.2.2.1 C.2.2.2.2.2.2.1 I.2.2.2.2.1 I.2.2.2.2.2.1 I.2.2.2.2.2.2 a (gk_get he) h1 j h2 (hts _ h4) (fun _ h => h) h8 (C.2.2.2.2.2.2.2.2.2.2.2.1.trans hin) h9 h7 (hn κ) (hfit κ) hl' hd (fun H1 locs1 hP hD hS => kk p l e R s m args below meth c A D dA κ0 n0 C κ H1 locs1 lsr cells slots (gI_set I hm hP hD hS))
theorem g_iald {a N : Nat} {f : Nat → Int32} {i : Int32} (hd : decode M.2.1 pc = .ok (.iaload, 1)) (he : w[a]? = some (.inl (0, N, .inl f))) (hin : vp_in i N) (kk : G M d (pc + 1) ls (.int (f i.toNatClampNeg) :: st) w k n Q) : G M d pc ls (.int i :: .ref a :: st) w k n Q :=
  fun p l e R s m args below meth c A D dA κ0 n0 C κ H locs lsr cells slots I => va_iald C.1 C.2.1 C.2.2.2.2.2.2.1 I.2.2.2.2.1 a 0 (gk_get he) rfl hin hd (kk p l e R s m args below meth c A D dA κ0 n0 C κ H locs lsr cells slots I)
theorem g_lald {a N : Nat} {f : Nat → Int64} {i : Int32} (hd : decode M.2.1 pc = .ok (.laload, 1)) (he : w[a]? = some (.inl (1, N, .inr (.inl f)))) (hin : vp_in i N) (kk : G M d (pc + 1) ls (.long (f i.toNatClampNeg) :: st) w k n Q) : G M d pc ls (.int i :: .ref a :: st) w k n Q :=
  fun p l e R s m args below meth c A D dA κ0 n0 C κ H locs lsr cells slots I => va_lald C.1 C.2.1 C.2.2.2.2.2.2.1 I.2.2.2.2.1 a 1 (gk_get he) rfl hin hd (kk p l e R s m args below meth c A D dA κ0 n0 C κ H locs lsr cells slots I)
theorem g_bald {a N : Nat} {f : Nat → Int32} {i : Int32} (hd : decode M.2.1 pc = .ok (.baload, 1)) (he : w[a]? = some (.inl (2, N, .inl f))) (hin : vp_in i N) (kk : G M d (pc + 1) ls (.int (f i.toNatClampNeg) :: st) w k n Q) : G M d pc ls (.int i :: .ref a :: st) w k n Q :=
  fun p l e R s m args below meth c A D dA κ0 n0 C κ H locs lsr cells slots I => va_bald C.1 C.2.1 C.2.2.2.2.2.2.1 I.2.2.2.2.1 a 2 (gk_get he) rfl hin hd (kk p l e R s m args below meth c A D dA κ0 n0 C κ H locs lsr cells slots I)
theorem g_zald {a N : Nat} {f : Nat → Int32} {i : Int32} (hd : decode M.2.1 pc = .ok (.baload, 1)) (he : w[a]? = some (.inl (3, N, .inl f))) (hin : vp_in i N) (kk : G M d (pc + 1) ls (.int (f i.toNatClampNeg) :: st) w k n Q) : G M d pc ls (.int i :: .ref a :: st) w k n Q :=
  fun p l e R s m args below meth c A D dA κ0 n0 C κ H locs lsr cells slots I => va_zald C.1 C.2.1 C.2.2.2.2.2.2.1 I.2.2.2.2.1 a 3 (gk_get he) rfl hin hd (kk p l e R s m args below meth c A D dA κ0 n0 C κ H locs lsr cells slots I)
theorem g_iast {a N : Nat} {f : Nat → Int32} {i x : Int32} (hd : decode M.2.1 pc = .ok (.iastore, 1)) (he : w[a]? = some (.inl (0, N, .inl f))) (hin : vp_in i N) (kk : G M d (pc + 1) ls st (w.set a (.inl (0, N, .inl (upd f i.toNatClampNeg x)))) k n Q) : G M d pc ls (.int x :: .int i :: .ref a :: st) w k n Q :=
  fun p l e R s m args below meth c A D dA κ0 n0 C κ H locs lsr cells slots I => va_iast C.1 C.2.1 C.2.2.2.2.2.2.1 I.2.2.2.2.1 I.2.2.2.2.2.1 I.2.2.2.2.2.2 a 0 (gk_get he) rfl hin hd (fun H1 locs1 hP hD hS => kk p l e R s m args below meth c A D dA κ0 n0 C κ H1 locs1 lsr cells slots (gI_set I rfl hP hD hS))
theorem g_last {a N : Nat} {f : Nat → Int64} {i : Int32} {x : Int64} (hd : decode M.2.1 pc = .ok (.lastore, 1)) (he : w[a]? = some (.inl (1, N, .inr (.inl f)))) (hin : vp_in i N) (kk : G M d (pc + 1) ls st (w.set a (.inl (1, N, .inr (.inl (vp_updL f i.toNatClampNeg x))))) k n Q) : G M d pc ls (.long x :: .int i :: .ref a :: st) w k n Q :=
  fun p l e R s m args below meth c A D dA κ0 n0 C κ H locs lsr cells slots I => va_last C.1 C.2.1 C.2.2.2.2.2.2.1 I.2.2.2.2.1 I.2.2.2.2.2.1 I.2.2.2.2.2.2 a 1 (gk_get he) rfl hin hd (fun H1 locs1 hP hD hS => kk p l e R s m args below meth c A D dA κ0 n0 C κ H1 locs1 lsr cells slots (gI_set I rfl hP hD hS))
theorem g_bast {a N : Nat} {f : Nat → Int32} {i x : Int32} (hd : decode M.2.1 pc = .ok (.bastore, 1)) (he : w[a]? = some (.inl (2, N, .inl f))) (hin : vp_in i N) (kk : G M d (pc + 1) ls st (w.set a (.inl (2, N, .inl (upd f i.toNatClampNeg x.toInt8.toInt32)))) k n Q) : G M d pc ls (.int x :: .int i :: .ref a :: st) w k n Q :=
  fun p l e R s m args below meth c A D dA κ0 n0 C κ H locs lsr cells slots I => va_bast C.1 C.2.1 C.2.2.2.2.2.2.1 I.2.2.2.2.1 I.2.2.2.2.2.1 I.2.2.2.2.2.2 a 2 (gk_get he) rfl hin hd (fun H1 locs1 hP hD hS => kk p l e R s m args below meth c A D dA κ0 n0 C κ H1 locs1 lsr cells slots (gI_set I rfl hP hD hS))
theorem g_zast {a N : Nat} {f : Nat → Int32} {i x : Int32} (hd : decode M.2.1 pc = .ok (.bastore, 1)) (he : w[a]? = some (.inl (3, N, .inl f))) (hin : vp_in i N) (kk : G M d (pc + 1) ls st (w.set a (.inl (3, N, .inl (upd f i.toNatClampNeg (vp_nar .boolean x))))) k n Q) : G M d pc ls (.int x :: .int i :: .ref a :: st) w k n Q :=
  fun p l e R s m args below meth c A D dA κ0 n0 C κ H locs lsr cells slots I => va_zast C.1 C.2.1 C.2.2.2.2.2.2.1 I.2.2.2.2.1 I.2.2.2.2.2.1 I.2.2.2.2.2.2 a 3 (gk_get he) rfl hin hd (fun H1 locs1 hP hD hS => kk p l e R s m args below meth c A D dA κ0 n0 C κ H1 locs1 lsr cells slots (gI_set I rfl hP hD hS))
theorem g_alen {a t : Nat} {x : vp_A} {ty : FieldType} (hd : decode M.2.1 pc = .ok (.arraylength, 1)) (he : w[a]? = some (.inl (t, x))) (ht : ∀ dA, (gtys dA)[t]? = some (dA t, ty)) (kk : G M d (pc + 1) ls (.int (Int32.ofNat x.1) :: st) w k n Q) : G M d pc ls (.ref a :: st) w k n Q :=
  fun p l e R s m args below meth c A D dA κ0 n0 C κ H locs lsr cells slots I => va_alen C.1 C.2.1 C.2.2.2.2.2.2.1 I.2.2.2.2.1 a t (gk_get he) (ht dA) rfl hd (kk p l e R s m args below meth c A D dA κ0 n0 C κ H locs lsr cells slots I)
theorem gZ_of {p : Program} {l : Launch} {e : Env} {R : Room} {s : State} {m : MethodId} {args : Array Value} {below : List Frame} {meth : Method} {c : Code} {H : Heap} {locs : List Loc} {cells slots : Nat} {A : Nat → Prop} {D : va_G} {dA : Nat → ClassId} {κ0 : Nat → Nat} {n0 : Nat} {g : JFrame} (h1 : cells ≤ R.cells) (h2 : slots ≤ R.slots)
    (h : W p l e R s m args below meth c H locs R.cells R.slots (MQ below (fun _ s o t => gQ A D dA κ0 n0 Q s o t) args s R.cells R.slots A) g) : W p l e R s m args below meth c H locs cells slots (gZ below s A D dA κ0 n0 R.cells R.slots Q) g := by
  refine W.widen h1 h2 ?_
  intro T hT X
  obtain ⟨t, a, o, b1, b2, b3, L, b4, b5⟩ := h T hT X
  exact ⟨t, a, o, b1, b2, b3, L, b4.2, b5⟩
theorem gQ_of {R : Room} {s : State} {A : Nat → Prop} {D : va_G} {dA : Nat → ClassId} {κ0 κ : Nat → Nat} {n0 : Nat} {H : Heap} {locs : List Loc} {lsr : Array Slot} {cells slots : Nat} (I : gI M ls w k n R s A D dA κ0 n0 κ H locs lsr cells slots) {v : Option Value} (hq : Q (.inl v) w) {t : State} (ht : t.heap = H) : gQ A D dA κ0 n0 Q s (.returned (v.map (gv κ))) t :=
  ⟨⟨κ, .inl v, w, hq, rfl, by rw [ht]; exact I.2.2.2.2.1, I.2.2.2.2.2.1, I.1⟩, I.2.2.2.2.2.2.F ht⟩
theorem g_iret {x : Int32} (hd : decode M.2.1 pc = .ok (.ireturn, 1)) (hr : M.2.2.2.1 = some .int) (hq : Q (.inl (some (.int x))) w) : G M d pc ls [.int x] w k n Q :=
  fun p l e R s m args below meth c A D dA κ0 n0 C κ H locs lsr cells slots I => gZ_of (by have := I.2.1; omega) (by have := I.2.2.1; omega) (W.iret C.1 C.2.1 (C.2.2.2.1.trans hr) (fun t ht _ => gQ_of I hq ht) I.2.2.2.2.2.2.2.2 hd C.2.2.2.2.2.2.2.2.1)
theorem g_zret {x : Int32} (hd : decode M.2.1 pc = .ok (.ireturn, 1)) (hr : M.2.2.2.1 = some .boolean) (hx : narrow .boolean (.int x) = .int x) (hq : Q (.inl (some (.int x))) w) : G M d pc ls [.int x] w k n Q :=
  fun p l e R s m args below meth c A D dA κ0 n0 C κ H locs lsr cells slots I => gZ_of (by have := I.2.1; omega) (by have := I.2.2.1; omega) (W.zret C.1 C.2.1 (C.2.2.2.1.trans hr) hx (fun t ht _ => gQ_of I hq ht) I.2.2.2.2.2.2.2.2 hd C.2.2.2.2.2.2.2.2.1)
theorem g_lret {x : Int64} (hd : decode M.2.1 pc = .ok (.lreturn, 1)) (hr : M.2.2.2.1 = some .long) (hq : Q (.inl (some (.long x))) w) : G M d pc ls [.long x] w k n Q :=
  fun p l e R s m args below meth c A D dA κ0 n0 C κ H locs lsr cells slots I => gZ_of (by have := I.2.1; omega) (by have := I.2.2.1; omega) (W.lret C.1 C.2.1 (C.2.2.2.1.trans hr) (fun t ht _ => gQ_of I hq ht) I.2.2.2.2.2.2.2.2 hd C.2.2.2.2.2.2.2.2.1)
theorem g_vret (hd : decode M.2.1 pc = .ok (.return_, 1)) (hr : M.2.2.2.1 = none) (hq : Q (.inl none) w) : G M d pc ls [] w k n Q :=
  fun p l e R s m args below meth c A D dA κ0 n0 C κ H locs lsr cells slots I => gZ_of (by have := I.2.1; omega) (by have := I.2.2.1; omega) (W.vret C.1 C.2.1 (C.2.2.2.1.trans hr) (fun t ht _ => gQ_of I hq ht) I.2.2.2.2.2.2.2.2 hd C.2.2.2.2.2.2.2.2.1)
end GW
end
section
/-! CONTRACTS AND CALLS -/
theorem gcode_spec {M : gM} {args : Array Value} {s : State} {m : MethodId} (h : (gcode M).before args s = true) (hn : s.methodNamed? M.1 = some m) : ∃ meth c, s.vm.method? m = some meth ∧ meth.code = some c ∧ c.code = M.2.1 ∧ c.maxLocals = M.2.2.1 ∧ meth.sig.returnType = M.2.2.2.1 ∧ meth.locks = false ∧ c.exceptionTable.toList.map (fun h => (h.startPc, h.endPc, h.handlerPc, h.catchType)) = M.2.2.2.2 ∧ parseMethodDescriptor M.1.desc = some meth.sig := by
  obtain ⟨y, cc, nL, rt, hs⟩ := M
  cases hs with
  | nil =>
    obtain ⟨meth, c, h1, h2, h3, h4, h5, h6, h7, h8⟩ := Cond.code_spec hn h
    refine ⟨meth, c, h1, h2, h3, h4, h5, h6, ?_, h8⟩
    have : c.exceptionTable = #[] := by simpa [Array.isEmpty_iff] using h7
    rw [this]; rfl
  | cons a r =>
    obtain ⟨m9, meth, c, hn9, h1, h2, h3, h4, h7, h5, h6, h8⟩ := Cond.codeWith_spec h
    cases hn.symm.trans hn9
    exact ⟨meth, c, h1, h2, h3, h4, h5, h6, h7, h8⟩
def gPc (D : va_G) (dA : Nat → ClassId) (κ : Nat → Nat) (sz : Nat) (avs : List Value) (w : gW) : Array Value → State → Prop := fun v U => v = (avs.map (gv κ)).toArray ∧ U.heap.size = sz ∧ gHT U ∧ va_P D gcls (gk dA κ w) U.heap ∧ va_K D gcls (gtys dA) U ∧ va_D (fun _ => True) (gk dA κ w) ∧ gH0 (va_A (gk dA κ w) sz) U
def gMet (l : Launch) (M : gM) (rm : Room) (Pc : Array Value → State → Prop) (Qc : Array Value → State → Outcome → State → Prop) (mc ms : Nat) (free : Addr → Prop) : Prop :=
  MetFree l M.1 (headSpec [gcode M] rm) Pc (fun _ _ _ _ _ => True) (fun a st o t => Qc a st o t ∧ ∃ L, (st.WarmedH t.vm ∧ st.sameButNew ({ t with vm := st.vm } : State) L mc ms) ∧ ∀ q ∈ L, free q.base)
/-- a method's contract over pure worlds: called with avs in the world w it comes to an end of which Q holds, with d levels of calls, mc cells of ms slots -/
def gCt (M : gM) (d : Nat × Nat) (mc ms : Nat) (avs : List Value) (w : gW) (Q : gR → gW → Prop) : Prop := ∀ (l : Launch), l.stackTraces = false → ∀ (D : va_G) (dA : Nat → ClassId) (κ : Nat → Nat) (sz : Nat), gMet l M { frames := d.1, cells := mc, slots := ms, locals := d.2 } (gPc D dA κ sz avs w) (fun _ st o t => gQ (va_A (gk dA κ w) sz) D dA κ w.length Q st o t) mc ms (va_A (gk dA κ w) sz)
def gla : List Value → List (Option Value)
  | [] => []
  | v :: r => if v.category = 2 then some v :: none :: gla r else some v :: gla r
theorem gas_gla (κ : Nat → Nat) : ∀ (vs : List Value) (i : Nat), gas κ i (gla vs) = lv_args i (vs.map (gv κ)) := by
  intro vs
  induction vs with
  | nil => intro i; rfl
  | cons v r ih =>
    intro i
    simp only [gla, List.map_cons, lv_args, gv_cat]
    by_cases h : v.category = 2
    · rw [if_pos h, if_pos h]; simp only [gas]; rw [ih]
    · rw [if_neg h, if_neg h]; simp only [gas]; rw [ih]
theorem gas_none (κ : Nat → Nat) (r : Nat) : ∀ (l : List (Option Value)) (i : Nat), gas κ i (l ++ List.replicate r none) = gas κ i l := by
  have h0 : ∀ (r i : Nat), gas κ i (List.replicate r none) = [] := by
    intro r
    induction r with
    | zero => intro i; rfl
    | succ r ih => intro i; rw [List.replicate_succ]; exact ih (i + 1)
  intro l
  induction l with
  | nil => intro i; exact h0 r i
  | cons a l ih =>
    intro i
    cases a with
    | none => exact ih (i + 1)
    | some v => exact congrArg (fun z => (i, gv κ v) :: z) (ih (i + 1))
theorem gsl_len (κ : Nat → Nat) : ∀ vs : List Value, (lg_sl (vs.map (gv κ))).length = (lg_sl vs).length := by
  intro vs
  induction vs with
  | nil => rfl
  | cons v r ih =>
    simp only [lg_sl, List.map_cons, List.flatMap_cons, List.length_append, gv_cat] at ih ⊢
    rw [ih]
    by_cases h : v.category = 2 <;> simp [h]
theorem gCt.of {M : gM} {d : Nat × Nat} {mc ms : Nat} {avs : List Value} {w : gW} {Q : gR → gW → Prop} {ls : List (Option Value)} (r : Nat) (hpl : plainName M.1.cls = true) (hls : gla avs ++ List.replicate r none = ls) (hlen : (lg_sl avs).length ≤ M.2.2.1) (h : G M d 0 ls [] w mc ms Q) : gCt M d mc ms avs w Q := by
  intro l hl D dA κ sz
  refine MetFree.of_bodyS (code := M.2.1) (maxLocals := M.2.2.1) (ret := M.2.2.2.1) hpl ?_ ?_
  · intro args s m hb hn
    obtain ⟨meth, c, h1, h2, h3, h4, h5, h6, -, -⟩ := gcode_spec (atoms_spec (ws := [gcode M]) hb (gcode M) List.mem_cons_self) hn
    exact ⟨meth, c, h1, h2, h3, h4, h5, h6⟩
  · intro p e s m args below meth c s₁ B hml hPc _
    obtain ⟨rfl, hsz, hT, hP, hK, hD, hH⟩ := hPc
    subst hsz
    have hh0 : s₁.heap = s.heap := by rw [B.state]; rfl
    have X₀ := Stand.of_body B
    obtain ⟨meth', c', g1, g2, g3, g4, g5, g6, g7, g8⟩ := gcode_spec (atoms_spec (ws := [gcode M]) B.pre (gcode M) List.mem_cons_self) B.named
    cases g1.symm.trans B.method
    cases g2.symm.trans X₀.code
    have C : gC M d p l { frames := d.1, cells := mc, slots := ms, locals := d.2 } s m meth c (va_A (gk dA κ w) s.heap.size) D dA :=
      ⟨B.exec, B.bytes, hml, B.returns, findClass_of_methodNamed B.named, hT, hK, fun q h => Or.inr h, B.notSynchronized, ⟨Nat.le_refl _, Nat.le_refl _⟩, g7, (name_of_methodNamed B.named B.method).1, hl, hH⟩
    have hl0 := lv_entry (avs.map (gv κ)) (n := M.2.2.1) (by rw [gsl_len]; exact hlen)
    have hl1 : lv_has ((lg_sl (avs.map (gv κ)) ++ List.replicate (M.2.2.1 - (lg_sl (avs.map (gv κ))).length) Slot.unset).toArray) M.2.2.1 (gas κ 0 ls) := by
      rw [← hls, gas_none, gas_gla]; exact hl0
    have K := h p l e { frames := d.1, cells := mc, slots := ms, locals := d.2 } s m (avs.map (gv κ)).toArray below meth c (va_A (gk dA κ w) s.heap.size) D dA κ w.length C κ s.heap [] _ 0 0 ⟨⟨Nat.le_refl _, fun _ => rfl, fun _ _ => rfl⟩, by simp, by simp, hl1, hP, hD.self, va_S.rf⟩
    obtain ⟨t, a1, o, b1, b2, b3, L, b4, b5⟩ := K s₁ hh0 X₀
    refine ⟨t, o, ?_, b1, b2, b3, L, b4, b5⟩
    rw [lg_entry_eq]
    exact a1
theorem gCt.mono {M : gM} {d : Nat × Nat} {mc ms : Nat} {avs : List Value} {w : gW} {Q Q' : gR → gW → Prop} (h : ∀ r w, Q r w → Q' r w) (g : gCt M d mc ms avs w Q) : gCt M d mc ms avs w Q' := by
  intro l hl D dA κ sz p e ha hc hk s m args below h1 h2 h3 h4
  obtain ⟨n, o, q1, q2, q3, ⟨⟨⟨κ', r, w', hq, hr⟩, hF⟩, hL⟩⟩ := g l hl D dA κ sz p e ha hc hk s m args below h1 h2 h3 h4
  exact ⟨n, o, q1, q2, q3, ⟨⟨⟨κ', r, w', h r w' hq, hr⟩, hF⟩, hL⟩⟩
section GCALL
variable {p : Program} {l : Launch} {e : Env} {R : Room} {s : State} {m : MethodId} {sargs : Array Value} {below : List Frame} {meth : Method} {c : Code} {U : State} {locs : List Loc} {cells slots : Nat}
/-- a call, whatever its outcome: the caller's frame goes on, or the exception lies over it -/
theorem gcall {M : gM} {rm : Room} {Pc : Array Value → State → Prop} {Qc : Array Value → State → Outcome → State → Prop} {mc ms : Nat} {free : Addr → Prop} {g : JFrame} {ig : Instr} {mk : MethodId} {a : Array Value} (hM : gMet l M rm Pc Qc mc ms free) (hrc : rm.cells = mc) (hrs : rm.slots = ms)
    (hfr : rm.frames + 1 ≤ R.frames) (hlo : 8 + (M.2.2.1 + 11) + rm.locals ≤ R.locals) (X : Stand p l e R s m sargs below meth c U locs cells slots) (hg : g.method = m) (hsize : g.locals.size = c.maxLocals) (hdg : decode c.code g.pc = .ok (ig, 3)) (hW : 2 * g.monitorRoom + (g.stack.map fun v => v.category).sum ≤ 8)
    (hn : U.methodNamed? M.1 = some mk) (hcode : (gcode M).before a U = true) (hini : (Cond.initialized M.1.cls).before a U = true) (hcells : cells + mc ≤ R.cells) (hslots : slots + ms ≤ R.slots) (hP : Pc a (U.calling g mk a)) :
    ∃ (o : Outcome) (t T' : State) (L : List Loc), Qc a (U.calling g mk a) o t ∧ T'.heap = t.heap ∧ T'.vm = t.vm ∧ (∀ q ∈ L, free q.base) ∧ Stand p l e R s m sargs below meth c T' (locs ++ L) (cells + mc) (slots + ms) ∧
      ((∃ v, o = .returned v ∧ Steps p.tables e below (doInvoke e (U.setTop g) [] mk a).1 (T'.setTop { g with pc := g.pc + 3, stack := v.toList ++ g.stack })) ∨ (∃ x, o = .threw x ∧ Steps p.tables e below (doInvoke e (U.setTop g) [] mk a).1 ((T'.setTop g).pushFrame (.throwing x)))) := by
  obtain ⟨methY, cY, hmY, hcY, -, hlY, -, -, -, -⟩ := gcode_spec hcode hn
  obtain ⟨kY, hkY, -⟩ := className_of_methodNamed hn
  have hinitY : kY.init = .initialized := Cond.initialized_spec (findClass_of_methodNamed hn) hkY hini
  have h : At U g.method c below := by rw [hg]; exact X.here
  have happ : (headSpec [gcode M] rm).appliesLoose M.1 e.platform (U.calling g mk a) = true :=
    Spec.appliesLoose_calling (g := g) h hdg hn hkY hinitY
      (X.room_calling (g := g) (R' := rm) hsize hmY hcY hfr (by rw [hlY]; omega) (by rw [hrc]; exact hcells) (by rw [hrs]; exact hslots)) (atoms_intro fun w hw => by
        rw [List.mem_singleton.mp hw]; exact hcode)
  obtain ⟨mid, hmid⟩ := h.above
  have hfr : (U.setTop g).frames = (.java g :: mid) ++ below := by rw [State.frames_setTop' g h.top, hmid]; rfl
  obtain ⟨o, s₂, hsteps, -, hend, hq, L, ⟨hW₂, hsm⟩, hL⟩ := Steps.callFree hM p X.admits X.cas X.clock (acts := []) hfr happ hP trivial
  rw [State.frames_setTop' g h.top] at hend
  have hq' : Qc a (U.calling g mk a) o s₂ := hq
  have hW3 : (U.calling g mk a).WarmedH s₂.vm := hW₂
  have hsm3 : (U.calling g mk a).sameButNew ({ s₂ with vm := (U.calling g mk a).vm } : State) L mc ms := hsm
  cases o with
  | threw x =>
    have hend' : Ended s₂ (.java g :: below) (.threw x) := by rw [X.tail] at hend; exact hend
    obtain ⟨T', X', -, -, ht⟩ := X.outOfThrown hg hend' hW3 hsm3
    refine ⟨.threw x, s₂, T', L, hq', by rw [ht]; rfl, by rw [ht]; rfl, hL, X', Or.inr ⟨x, rfl, by rw [← ht]; exact hsteps⟩⟩
  | returned v =>
    obtain ⟨e2, q2, q3, q4, q5, q6⟩ := hsm3
    have e3 : s₂ = ({ (U.calling g mk a).setFrames s₂.frames with heap := s₂.heap, slotsUsed := s₂.slotsUsed } : State).setVm s₂.vm := by
      have : s₂ = ({ s₂ with vm := (U.calling g mk a).vm } : State).setVm s₂.vm := rfl
      rw [e2] at this
      exact this
    obtain ⟨c₂, i₂, len₂, hc₂, hd₂, hf₂⟩ := hend
    have hW' : U.WarmedH s₂.vm := hW₂
    have hcc : c₂ = c := by
      have h1 : s₂.code? g.method = U.code? g.method := by
        rw [State.code?_eq, State.code?_eq, hW'.alike.method?]
      exact Option.some.inj (hc₂.symm.trans (h1.trans h.code))
    subst hcc
    have hlen : len₂ = 3 := by rw [hdg] at hd₂; cases hd₂; rfl
    subst hlen
    obtain ⟨g₀, hg0⟩ := Option.isSome_iff_exists.mp h.top
    obtain ⟨r, hr⟩ := State.topJava?_eq_some.mp hg0
    have hs₂ : s₂ = (({ U with heap := s₂.heap, slotsUsed := s₂.slotsUsed } : State).setVm s₂.vm).setTop { g with pc := g.pc + 3, stack := v.toList ++ g.stack } := by
      have hr' : (({ U with heap := s₂.heap, slotsUsed := s₂.slotsUsed } : State).setVm s₂.vm).frames = .java g₀ :: r := hr
      refine e3.trans ?_
      rw [hf₂, State.calling_eq h.top, State.setFrames_setFrames, State.setTop_of_frames _ hr', hr]
      rfl
    have hsame : U.sameButNew ({ U with heap := s₂.heap, slotsUsed := s₂.slotsUsed } : State) L mc ms := by
      refine ⟨?_, q2, q3, q4, q5, q6⟩
      obtain ⟨t, ht, -⟩ := State.frames_cons hr
      show ({ U with heap := s₂.heap, slotsUsed := s₂.slotsUsed } : State) = { U.setFrames U.frames with heap := s₂.heap, slotsUsed := s₂.slotsUsed }
      rw [State.setFrames_self ht]
    subst hg
    refine ⟨.returned v, s₂, (({ U with heap := s₂.heap, slotsUsed := s₂.slotsUsed } : State).setVm s₂.vm), L, hq', rfl, rfl, hL,
      ⟨X.admits, X.cas, X.clock, X.frames, X.room, X.hears, X.method, X.code, (X.here.setHeapUsed s₂.heap s₂.slotsUsed).setVm hW'.alike, X.tail, State.WarmedH.trans X.warmed hW', X.limits, X.bytes, X.same.trans (hsame.setVm s.vm)⟩, Or.inl ⟨v, rfl, ?_⟩⟩
    rw [← hs₂]
    exact hsteps
/-- what links a call: the callee's code, and the pool's entry -/
def gL (own : String) (index : Nat) (M : gM) (np : Nat) : Prop := gcode M ∈ gT ∧ Cond.initialized M.1.cls ∈ gT ∧ (M.1.cls ≠ "java/lang/invoke/MethodHandle" ∧ M.1.cls ≠ "java/lang/invoke/VarHandle") ∧ (parseMethodDescriptor M.1.desc).map (fun d => d.parameters.length) = some np ∧
  (Cond.methodLink own index M.1 ∈ gT ∨ ∃ host, Cond.methodLinkNest own index M.1 host ∈ gT)
theorem gL.np {own : String} {index np : Nat} {M : gM} (h : gL own index M np) {sig : MethodDescriptor} (hs : parseMethodDescriptor M.1.desc = some sig) : np = sig.parameters.length := by
  have h2 := h.2.2.2.1
  rw [hs] at h2
  exact (Option.some.inj h2).symm
theorem giV (X : Stand p l e R s m sargs below meth c U locs cells slots) (hexec : p.tables.exec = Jvm.exec) (hts : ∀ x ∈ gT, x.before sargs s = true) {own C : String} {index np : Nat} {M : gM} (hown : s.vm.findClass own = some m.cls) (hL : gL own index M np) (hi : Cond.instanceMethod M.1 ∈ gT) (hs : Cond.selects C M.1 M.1 ∈ gT)
    {b : Addr} {cellB : Cell} (hcell : U.heap[b]? = some cellB) (hobj : cellB.vm.isStatics = false) (hcls : s.vm.findClass C = some cellB.cls) {g : JFrame} (hg : g.method = m) {as rest : List Value} (hlen : as.length = np) (hstack : g.stack = as.reverse ++ .ref b :: rest) (hdg : decode c.code g.pc = .ok (.invokevirtual index, 3)) :
    ∃ (mk : MethodId) (vm₁ : Vm), Stand p l e R s m sargs below meth c (U.setVm vm₁) locs cells slots ∧ s.methodNamed? M.1 = some mk ∧ ∀ target, (∀ acts, Steps p.tables e below (doInvoke e ((U.setVm vm₁).setTop { g with stack := rest }) acts mk (Value.ref b :: as).toArray).1 target) → Steps p.tables e below (U.setTop g) target := by
  obtain ⟨mk, methM, hnamed, hmethM, hstM, habM⟩ := Cond.instanceMethod_spec (hts _ hi)
  obtain ⟨methM', cM, hmethM', -, -, -, -, -, -, hsigM⟩ := gcode_spec (hts _ hL.1) hnamed
  cases hmethM.symm.trans hmethM'
  obtain ⟨c2, r2, m2, q1, q2, q3, q4, kP, hkP, hkPi⟩ := Cond.selects_spec (hts _ hs)
  cases hcls.symm.trans q1
  cases (State.methodFound?_of_named hnamed hL.2.2.1).symm.trans q2
  cases hnamed.symm.trans q3
  have hselP : selectMethod e.platform s.vm cellB.cls mk = .method mk := by rw [Launch.admits_selectMethod X.admits]; exact q4
  have hlen' : as.length = methM.sig.parameters.length := hlen.trans (hL.np hsigM)
  rcases hL.2.2.2.2 with hl | ⟨host, hl⟩
  · obtain ⟨vm₁, X₁, hstep₁⟩ := X.invokevirtual hexec hown (hts _ hl) hnamed hmethM hstM hkP hkPi hL.2.2.1 (a := b) (cell := cellB) hcell
      (fun z h => by rw [h] at hobj; cases hobj) hselP hmethM habM hkP hkPi (g := g) hg (argsL := as) (rest := rest) hlen' hstack hdg
    exact ⟨mk, vm₁, X₁, hnamed, hstep₁⟩
  · obtain ⟨vm₁, X₁, hstep₁⟩ := X.invokevirtualNest hexec hown (hts _ hl) hnamed hmethM hstM hkP hkPi hL.2.2.1 (a := b) (cell := cellB) hcell
      (fun z h => by rw [h] at hobj; cases hobj) hselP hmethM habM hkP hkPi (g := g) hg (argsL := as) (rest := rest) hlen' hstack hdg
    exact ⟨mk, vm₁, X₁, hnamed, hstep₁⟩
theorem giS (X : Stand p l e R s m sargs below meth c U locs cells slots) (hexec : p.tables.exec = Jvm.exec) (hts : ∀ x ∈ gT, x.before sargs s = true) {own : String} {index np : Nat} {M : gM} (hown : s.vm.findClass own = some m.cls) (hL : gL own index M np) (hst : Cond.static M.1 ∈ gT)
    {g : JFrame} (hg : g.method = m) {as rest : List Value} (hlen : as.length = np) (hstack : g.stack = as.reverse ++ rest) (hdg : decode c.code g.pc = .ok (.invokestatic index, 3)) :
    ∃ (mk : MethodId) (vm₁ : Vm), Stand p l e R s m sargs below meth c (U.setVm vm₁) locs cells slots ∧ s.methodNamed? M.1 = some mk ∧ ∀ target, (∀ acts, Steps p.tables e below (doInvoke e ((U.setVm vm₁).setTop { g with stack := rest }) acts mk as.toArray).1 target) → Steps p.tables e below (U.setTop g) target := by
  have hcode := hts _ hL.1
  obtain ⟨mk, hnamed⟩ : ∃ mk, s.methodNamed? M.1 = some mk := by
    obtain ⟨y, cc, nL, rt, hs⟩ := M
    cases hs with
    | nil => exact Cond.code_named hcode
    | cons a r => obtain ⟨m9, _, _, hn9, _⟩ := Cond.codeWith_spec hcode; exact ⟨m9, hn9⟩
  obtain ⟨methM, cM, hmethM, -, -, -, -, -, -, hsigM⟩ := gcode_spec hcode hnamed
  have hstatic : methM.isStatic = true := Cond.static_spec hnamed hmethM (hts _ hst)
  obtain ⟨kP, hkP, -⟩ := className_of_methodNamed hnamed
  have hinitP : kP.init = .initialized := Cond.initialized_spec (findClass_of_methodNamed hnamed) hkP (hts _ hL.2.1)
  have hlen' : as.length = methM.sig.parameters.length := hlen.trans (hL.np hsigM)
  rcases hL.2.2.2.2 with hl | ⟨host, hl⟩
  · obtain ⟨vm₁, X₁, hstep₁⟩ := X.invokestatic hexec hown (hts _ hl) hnamed hmethM hstatic hkP hinitP hL.2.2.1 (g := g) hg (argsL := as) (rest := rest) hlen' hstack hdg
    exact ⟨mk, vm₁, X₁, hnamed, hstep₁⟩
  · obtain ⟨vm₁, X₁, hstep₁⟩ := X.invokestaticNest hexec hown (hts _ hl) hnamed hmethM hstatic hkP hinitP hL.2.2.1 (g := g) hg (argsL := as) (rest := rest) hlen' hstack hdg
    exact ⟨mk, vm₁, X₁, hnamed, hstep₁⟩
theorem giI (X : Stand p l e R s m sargs below meth c U locs cells slots) (hexec : p.tables.exec = Jvm.exec) (hts : ∀ x ∈ gT, x.before sargs s = true) {own : String} {index np : Nat} {M : gM} (hown : s.vm.findClass own = some m.cls) (hL : gL own index M np) (hy1 : M.1.name = "<init>") (hi : Cond.instanceMethod M.1 ∈ gT) (hh : M.2.2.2.2 = []) (hr : M.2.2.2.1 = none)
    {b : Addr} {g : JFrame} (hg : g.method = m) {as rest : List Value} (hlen : as.length = np) (hstack : g.stack = as.reverse ++ .ref b :: rest) (hdg : decode c.code g.pc = .ok (.invokespecial index, 3)) :
    ∃ (mk : MethodId) (vm₁ : Vm), Stand p l e R s m sargs below meth c (U.setVm vm₁) locs cells slots ∧ s.methodNamed? M.1 = some mk ∧ ∀ target, (∀ acts, Steps p.tables e below (doInvoke e ((U.setVm vm₁).setTop { g with stack := rest }) acts mk (Value.ref b :: as).toArray).1 target) → Steps p.tables e below (U.setTop g) target := by
  subst hg
  obtain ⟨y, cc, nL, rt, hs⟩ := M
  subst hh; subst hr
  have hcode : (Cond.code y cc nL none).before sargs s = true := hts _ hL.1
  have hpl : e.platform.magicAccessors = ({} : Platform).magicAccessors := by rw [X.admits.platform]
  rcases hL.2.2.2.2 with hl | ⟨host, hl⟩
  · obtain ⟨mk, methM, cM, kP, vm₁, hnamed, hmethM, hcodeM, -, hlocalsM, -, hkP, -, hW₁, hstep₁⟩ := Steps.initColdArgs (e := e) X.here hexec X.warmed hpl hown hy1 hL.2.2.1 (hts _ hl) (hts _ hi) hcode (f := g) (argsL := as) (rest := rest) (a := b) rfl (fun sig h => hlen.trans (hL.np h)) hstack hdg
    exact ⟨mk, vm₁, X.noted hW₁, hnamed, hstep₁⟩
  · obtain ⟨mk, methM, cM, kP, vm₁, hnamed, hmethM, hcodeM, -, hlocalsM, -, hkP, -, hW₁, hstep₁⟩ := Steps.initColdArgsNest (e := e) X.here hexec X.warmed hpl hown hy1 hL.2.2.1 (hts _ hl) (hts _ hi) hcode (f := g) (argsL := as) (rest := rest) (a := b) rfl (fun sig h => hlen.trans (hL.np h)) hstack hdg
    exact ⟨mk, vm₁, X.noted hW₁, hnamed, hstep₁⟩
end GCALL
/-! CALLS OVER PURE WORLDS -/
/-- an exception of class E lies over the frame -/
def GT (M : gM) (d : Nat × Nat) (pc : Nat) (ls : List (Option Value)) (st : List Value) (w : gW) (k n : Nat) (E : String) (Q : gR → gW → Prop) : Prop :=
  ∀ p l e R s m args below meth c A D dA κ0 n0, gC M d p l R s m meth c A D dA → ∀ κ H locs lsr cells slots, gI M ls w k n R s A D dA κ0 n0 κ H locs lsr cells slots →
    ∀ (x : Addr) (cell : Cell) (T : State), T.heap = H → Stand p l e R s m args below meth c T locs cells slots → H[x]? = some cell → cell.vm.isStatics = false → s.vm.findClass E = some cell.cls →
      ∃ t, Steps p.tables e below ((T.setTop (F0 m pc lsr (st.map (gv κ)))).pushFrame (.throwing x)) t ∧ gZ below s A D dA κ0 n0 R.cells R.slots Q t
def gvb (N : Nat) : Value → Bool
  | .ref a => decide (a < N)
  | _ => true
def glb (N : Nat) (ls : List (Option Value)) : Bool := ls.all (fun o => match o with | some v => gvb N v | none => true)
theorem gv_agree {N : Nat} {κ κ' : Nat → Nat} (h : ∀ i, i < N → κ' i = κ i) {v : Value} (hv : gvb N v = true) : gv κ' v = gv κ v := by
  cases v <;> first | rfl | (simp only [gvb, decide_eq_true_eq] at hv; simp only [gv]; rw [h _ hv])
theorem gst_agree {N : Nat} {κ κ' : Nat → Nat} (h : ∀ i, i < N → κ' i = κ i) {st : List Value} (hv : st.all (gvb N) = true) : st.map (gv κ') = st.map (gv κ) :=
  List.map_congr_left (fun v hm => gv_agree h (List.all_eq_true.mp hv v hm))
theorem gas_agree {N : Nat} {κ κ' : Nat → Nat} (h : ∀ i, i < N → κ' i = κ i) : ∀ (ls : List (Option Value)) (i : Nat), glb N ls = true → gas κ' i ls = gas κ i ls := by
  intro ls
  induction ls with
  | nil => intro i _; rfl
  | cons a r ih =>
    intro i hv
    simp only [glb, List.all_cons, Bool.and_eq_true] at hv
    cases a with
    | none => exact ih (i + 1) hv.2
    | some v => simp only [gas]; rw [gv_agree h hv.1, ih (i + 1) hv.2]
theorem g_inv {M M2 : gM} {d d2 : Nat × Nat} {pc mc ms : Nat} {ls : List (Option Value)} {st stk avs : List Value} {w : gW} {k n : Nat} {Q Q2 : gR → gW → Prop} {ig : Instr} (hct : gCt M2 d2 mc ms avs w Q2) (hdd : d2.1 + 1 ≤ d.1 ∧ 8 + (M2.2.2.1 + 11) + d2.2 ≤ d.2) (hmc : mc ≤ k) (hms : ms ≤ n) (hcode : gcode M2 ∈ gT) (hini : Cond.initialized M2.1.cls ∈ gT)
    (hst8 : (st.map fun v => v.category).sum ≤ 8) (hk : (∀ r w', Q2 r w' → w'.length = w.length) ∨ (glb w.length ls = true ∧ st.all (gvb w.length) = true)) (hd : decode M.2.1 pc = .ok (ig, 3))
    (hinv : ∀ (p : Program) (l : Launch) (e : Env) (R : Room) (s : State) (m : MethodId) (args : Array Value) (below : List Frame) (meth : Method) (c : Code) (A : Nat → Prop) (D : va_G) (dA : Nat → ClassId), gC M d p l R s m meth c A D dA → ∀ (κ : Nat → Nat) (lsr : Array Slot) (locs : List Loc) (cells slots : Nat) (T : State), va_P D gcls (gk dA κ w) T.heap → Stand p l e R s m args below meth c T locs cells slots →
      ∃ (mk : MethodId) (vm₁ : Vm), Stand p l e R s m args below meth c (T.setVm vm₁) locs cells slots ∧ s.methodNamed? M2.1 = some mk ∧ ∀ target, (∀ acts, Steps p.tables e below (doInvoke e ((T.setVm vm₁).setTop (F0 m pc lsr (st.map (gv κ)))) acts mk (avs.map (gv κ)).toArray).1 target) → Steps p.tables e below (T.setTop (F0 m pc lsr (stk.map (gv κ)))) target)
    (kr : ∀ v w', Q2 (.inl v) w' → G M d (pc + 3) ls (v.toList ++ st) w' (k - mc) (n - ms) Q) (kt : ∀ E w', Q2 (.inr E) w' → GT M d pc ls st w' (k - mc) (n - ms) E Q) : G M d pc ls stk w k n Q := by
  intro p l e R s m args below meth c A D dA κ0 n0 C κ H locs lsr cells slots I T hT X
  subst hT
  obtain ⟨mk, vm₁, X₁, hnamed, hstep⟩ := hinv p l e R s m args below meth c A D dA C κ lsr locs cells slots T I.2.2.2.2.1 X
  have hts1 : gHT (T.setVm vm₁) := gT_warm X₁.warmed C.2.2.2.2.2.1
  have hR := C.2.2.2.2.2.2.2.2.2.1
  have hcat : ((st.map (gv κ)).map fun v => v.category).sum ≤ 8 := by
    rw [List.map_map]
    have : (Value.category ∘ gv κ) = fun v => v.category := funext (fun v => gv_cat κ v)
    rw [show (fun v => v.category) ∘ gv κ = (fun v : Value => v.category) from this]
    exact hst8
  have hfree : ∀ q, va_A (gk dA κ w) T.heap.size q → A q := by
    intro q hq
    rcases hq with ⟨i, e, h⟩ | h
    · exact I.2.2.2.2.2.1.2 i (q, e) h
    · exact C.2.2.2.2.2.2.2.1 q (Nat.le_trans I.2.2.2.2.2.2.1 h)
  obtain ⟨o, t, T', L, hq, e1, e2, hL, X', hout⟩ := gcall (hct l C.2.2.2.2.2.2.2.2.2.2.2.2.1 D dA κ T.heap.size) rfl rfl (Nat.le_trans hdd.1 hR.1) (Nat.le_trans hdd.2 hR.2) X₁ (g := F0 m pc lsr (st.map (gv κ))) rfl (by rw [C.2.2.1]; exact I.2.2.2.1.1) (by rw [C.2.1]; exact hd) (lv_room hcat) (X₁.named hnamed) (hts1 _ hcode _) (hts1 _ hini _) (by have := I.2.1; omega) (by have := I.2.2.1; omega)
    (a := (avs.map (gv κ)).toArray) ⟨rfl, rfl, gT_warm (s := T.setVm vm₁) (State.WarmedH.refl _) hts1, I.2.2.2.2.1, va_K.moved (u := T.setVm vm₁) (Vm.Alike.refl _) (va_K.moved X₁.warmed.alike C.2.2.2.2.2.2.1), I.2.2.2.2.2.1.weaken (fun _ _ _ _ => trivial), gH0_call C.2.2.2.2.2.2.2.2.2.2.2.2.2 (fun q h1 h2 => I.2.2.2.2.2.2.2.1 q h1 h2) X₁.warmed hfree⟩
  obtain ⟨⟨κ', r, w', hq2, hO, hP', hD', hn', hk1, hk2⟩, hF1, hF2⟩ := hq
  have hF1 : T.heap.size ≤ t.heap.size := hF1
  have hF2 : ∀ q : Nat, q < T.heap.size → ¬ va_A (gk dA κ w) T.heap.size q → t.heap[q]? = T.heap[q]? := hF2
  have hagree : gas κ' 0 ls = gas κ 0 ls ∧ st.map (gv κ') = st.map (gv κ) := by
    rcases hk with hk | ⟨h1, h2⟩
    · have := hk1 (hk r w' hq2)
      subst this
      exact ⟨rfl, rfl⟩
    · exact ⟨gas_agree hk2 ls 0 h1, gst_agree hk2 h2⟩
  have I' : gI M ls w' (k - mc) (n - ms) R s A D dA κ0 n0 κ' T'.heap (locs ++ L) lsr (cells + mc) (slots + ms) := by
    refine ⟨⟨Nat.le_trans I.1.1 hn', fun h => ?_, fun i hi => (hk2 i (Nat.lt_of_lt_of_le hi I.1.1)).trans (I.1.2.2 i hi)⟩, by have := I.2.1; omega, by have := I.2.2.1; omega, by rw [hagree.1]; exact I.2.2.2.1, by rw [e1]; exact hP', hD'.weaken (fun _ q _ h => hfree q.1 h), ?_⟩
    · have hw : w.length = n0 := by have := I.1.1; omega
      exact (hk1 (by omega)).trans (I.1.2.1 hw)
    · refine ⟨by rw [e1]; exact Nat.le_trans I.2.2.2.2.2.2.1 hF1, fun q h1 h2 => ?_, fun q hq => ?_⟩
      · rw [e1, hF2 q (Nat.lt_of_lt_of_le h1 I.2.2.2.2.2.2.1) (fun z => h2 (hfree q z))]
        exact I.2.2.2.2.2.2.2.1 q h1 h2
      · rcases List.mem_append.mp hq with h | h
        · exact I.2.2.2.2.2.2.2.2 q h
        · exact hfree _ (hL q h)
  cases r with
  | inl v =>
    have ho : o = .returned (v.map (gv κ')) := hO
    rcases hout with ⟨v2, h1, h2⟩ | ⟨x, h1, h2⟩
    · cases ho.symm.trans h1
      obtain ⟨t2, a2, b2⟩ := kr v w' hq2 p l e R s m args below meth c A D dA κ0 n0 C κ' T'.heap (locs ++ L) lsr (cells + mc) (slots + ms) I' T' rfl X'
      refine ⟨t2, hstep _ (fun acts => ?_), b2⟩
      rw [doInvoke_state]
      refine h2.trans ?_
      have hst : (v.toList ++ st).map (gv κ') = (v.map (gv κ')).toList ++ st.map (gv κ) := by
        rw [List.map_append, hagree.2]; cases v <;> rfl
      rw [hst] at a2
      exact a2
    · rw [ho] at h1; cases h1
  | inr E =>
    obtain ⟨x, cell, ho, hc1, hc2, hc3⟩ := hO
    rcases hout with ⟨v2, h1, h2⟩ | ⟨x2, h1, h2⟩
    · rw [ho] at h1; cases h1
    · cases ho.symm.trans h1
      have hfc : s.vm.findClass E = some cell.cls := by rw [← hc3, ← e2]; exact (X'.warmed.alike.findClass E none).symm
      obtain ⟨t2, a2, b2⟩ := kt E w' hq2 p l e R s m args below meth c A D dA κ0 n0 C κ' T'.heap (locs ++ L) lsr (cells + mc) (slots + ms) I' x cell T' rfl X' (by rw [e1]; exact hc1) hc2 hfc
      refine ⟨t2, hstep _ (fun acts => ?_), b2⟩
      rw [doInvoke_state]
      refine h2.trans ?_
      rw [hagree.2] at a2
      exact a2
section GCR
variable {M M2 : gM} {d d2 : Nat × Nat} {pc mc ms : Nat} {ls : List (Option Value)} {st stk as : List Value} {w : gW} {k n : Nat} {Q Q2 : gR → gW → Prop} {index np : Nat}
theorem g_callV {C : String} {b ci : Nat} {fs : List Value} {T : u_T} {N : Nat} (hd : decode M.2.1 pc = .ok (.invokevirtual index, 3)) (hL : gL M.1.cls index M2 np) (hi : Cond.instanceMethod M2.1 ∈ gT) (hs : Cond.selects C M2.1 M2.1 ∈ gT) (hcl : gcls[ci]? = some (C, T, N)) (has : as.length = np) (hstk : as.reverse ++ .ref b :: st = stk) (he : w[b]? = some (.inr (ci, fs)))
    (hct : gCt M2 d2 mc ms (.ref b :: as) w Q2) (hdd : d2.1 + 1 ≤ d.1 ∧ 8 + (M2.2.2.1 + 11) + d2.2 ≤ d.2) (hmc : mc ≤ k) (hms : ms ≤ n) (hst8 : (st.map fun v => v.category).sum ≤ 8) (hk : (∀ r w', Q2 r w' → w'.length = w.length) ∨ (glb w.length ls = true ∧ st.all (gvb w.length) = true))
    (kr : ∀ v w', Q2 (.inl v) w' → G M d (pc + 3) ls (v.toList ++ st) w' (k - mc) (n - ms) Q) (kt : ∀ E w', Q2 (.inr E) w' → GT M d pc ls st w' (k - mc) (n - ms) E Q) : G M d pc ls stk w k n Q := by
  refine g_inv hct hdd hmc hms hL.1 hL.2.1 hst8 hk hd ?_ kr kt
  intro p l e R s m args below meth c A D dA C0 κ lsr locs cells slots T0 hP X
  subst hstk
  obtain ⟨cell, h1, h2, h3⟩ := va_recv C0.2.2.2.2.2.2.1 hP (ci := ci) (q0 := b) hcl (gk_get he)
  exact giV X C0.1 (gts C0.2.2.2.2.2.1) C0.2.2.2.2.1 hL hi hs h1 h2 h3 (g := F0 m pc lsr ((as.reverse ++ .ref b :: st).map (gv κ))) rfl (as := as.map (gv κ)) (rest := st.map (gv κ)) (by rw [List.length_map]; exact has) (by simp [gv]) (by rw [C0.2.1]; exact hd)
theorem g_callS (hd : decode M.2.1 pc = .ok (.invokestatic index, 3)) (hL : gL M.1.cls index M2 np) (hi : Cond.static M2.1 ∈ gT) (has : as.length = np) (hstk : as.reverse ++ st = stk)
    (hct : gCt M2 d2 mc ms as w Q2) (hdd : d2.1 + 1 ≤ d.1 ∧ 8 + (M2.2.2.1 + 11) + d2.2 ≤ d.2) (hmc : mc ≤ k) (hms : ms ≤ n) (hst8 : (st.map fun v => v.category).sum ≤ 8) (hk : (∀ r w', Q2 r w' → w'.length = w.length) ∨ (glb w.length ls = true ∧ st.all (gvb w.length) = true))
    (kr : ∀ v w', Q2 (.inl v) w' → G M d (pc + 3) ls (v.toList ++ st) w' (k - mc) (n - ms) Q) (kt : ∀ E w', Q2 (.inr E) w' → GT M d pc ls st w' (k - mc) (n - ms) E Q) : G M d pc ls stk w k n Q := by
  refine g_inv hct hdd hmc hms hL.1 hL.2.1 hst8 hk hd ?_ kr kt
  intro p l e R s m args below meth c A D dA C0 κ lsr locs cells slots T0 hP X
  subst hstk
  exact giS X C0.1 (gts C0.2.2.2.2.2.1) C0.2.2.2.2.1 hL hi (g := F0 m pc lsr ((as.reverse ++ st).map (gv κ))) rfl (as := as.map (gv κ)) (rest := st.map (gv κ)) (by rw [List.length_map]; exact has) (by simp) (by rw [C0.2.1]; exact hd)
theorem g_callI {b : Nat} (hd : decode M.2.1 pc = .ok (.invokespecial index, 3)) (hL : gL M.1.cls index M2 np) (hy1 : M2.1.name = "<init>") (hi : Cond.instanceMethod M2.1 ∈ gT) (hh : M2.2.2.2.2 = []) (hr : M2.2.2.2.1 = none) (has : as.length = np) (hstk : as.reverse ++ .ref b :: st = stk)
    (hct : gCt M2 d2 mc ms (.ref b :: as) w Q2) (hdd : d2.1 + 1 ≤ d.1 ∧ 8 + (M2.2.2.1 + 11) + d2.2 ≤ d.2) (hmc : mc ≤ k) (hms : ms ≤ n) (hst8 : (st.map fun v => v.category).sum ≤ 8) (hk : (∀ r w', Q2 r w' → w'.length = w.length) ∨ (glb w.length ls = true ∧ st.all (gvb w.length) = true))
    (kr : ∀ v w', Q2 (.inl v) w' → G M d (pc + 3) ls (v.toList ++ st) w' (k - mc) (n - ms) Q) (kt : ∀ E w', Q2 (.inr E) w' → GT M d pc ls st w' (k - mc) (n - ms) E Q) : G M d pc ls stk w k n Q := by
  refine g_inv hct hdd hmc hms hL.1 hL.2.1 hst8 hk hd ?_ kr kt
  intro p l e R s m args below meth c A D dA C0 κ lsr locs cells slots T0 hP X
  subst hstk
  exact giI X C0.1 (gts C0.2.2.2.2.2.1) C0.2.2.2.2.1 hL hy1 hi hh hr (b := κ b) (g := F0 m pc lsr ((as.reverse ++ .ref b :: st).map (gv κ))) rfl (as := as.map (gv κ)) (rest := st.map (gv κ)) (by rw [List.length_map]; exact has) (by simp [gv]) (by rw [C0.2.1]; exact hd)
theorem GT.out {E : String} (hno : ∀ h ∈ M.2.2.2.2, (decide (h.1 ≤ pc) && decide (pc < h.2.1)) = false) (hq : Q (.inr E) w) : GT M d pc ls st w k n E Q := by
  intro p l e R s m args below meth c A D dA κ0 n0 C κ H locs lsr cells slots I x cell T hT X hc1 hc2 hc3
  have X2 := stand_widen (k := R.cells) (n := R.slots) X (by have := I.2.1; omega) (by have := I.2.2.1; omega)
  have hout : ∀ y ∈ c.exceptionTable.toList, covers y pc = false := by
    intro y hy
    exact hno (y.startPc, y.endPc, y.handlerPc, y.catchType) (by rw [← C.2.2.2.2.2.2.2.2.2.2.1]; exact List.mem_map.mpr ⟨y, hy, rfl⟩)
  obtain ⟨hst, hrun, hend, hwarm, hsame⟩ := X2.leaveThrown x (g := F0 m pc lsr (st.map (gv κ))) rfl rfl rfl hout C.2.2.2.2.2.2.2.2.1
  have hh : (T.setFrames (.throwing x :: below)).heap = H := hT
  refine ⟨_, hst, .threw x, hrun, hend, ⟨⟨κ, .inr E, w, hq, ⟨x, cell, rfl, by rw [hh]; exact hc1, hc2, ?_⟩, by rw [hh]; exact I.2.2.2.2.1, I.2.2.2.2.2.1, I.1⟩, I.2.2.2.2.2.2.F hh⟩, locs, ⟨hwarm, hsame⟩, I.2.2.2.2.2.2.2.2⟩
  rw [← hc3]
  exact hwarm.alike.findClass E none
end GCR
/-! THROWING AND CATCHING OVER PURE WORLDS -/
def gs0 (i : Nat) (ls : List (Option Value)) : List (Option Value) := (gx i ls).set i none
theorem gs0_has {κ : Nat → Nat} {lsr : Array Slot} {nL i : Nat} {v : Value} {ls : List (Option Value)} (h : lv_has lsr nL ((i, v) :: (gas κ 0 ls).filter (fun q => !(q.1 == i) && !(q.1 + 1 == i && q.2.category == 2)))) : lv_has lsr nL (gas κ 0 (gs0 i ls)) := by
  refine ⟨h.1, h.2.1, fun q hq => h.2.2 q ?_⟩
  obtain ⟨k, u, h1, rfl⟩ := (gas_mem κ _ _ _).mp hq
  unfold gs0 at h1
  rw [List.getElem?_set] at h1
  by_cases hk : i = k
  · subst hk
    rw [if_pos rfl] at h1
    split at h1
    · cases h1
    · cases h1
  · rw [if_neg hk] at h1
    obtain ⟨h2, h3⟩ := gx_in h1
    refine List.mem_cons.mpr (Or.inr (List.mem_filter.mpr ⟨(gas_mem κ _ _ _).mpr ⟨k, u, h2, rfl⟩, ?_⟩))
    have hki : ¬ (0 + k) = i := fun z => hk (by omega)
    simp only [gv_cat, Bool.and_eq_true, Bool.not_eq_true', beq_eq_false_iff_ne, ne_eq, Bool.and_eq_false_iff]
    refine ⟨hki, ?_⟩
    by_cases hc : 0 + k + 1 = i
    · exact Or.inr (fun z => h3 ⟨by omega, z⟩)
    · exact Or.inl hc
section GTC
variable {M : gM} {d : Nat × Nat} {pc : Nat} {ls : List (Option Value)} {st : List Value} {w : gW} {k n : Nat} {Q : gR → gW → Prop}
theorem g_throwS {cls text : String} {names : List String} {ik is ic : Nat} (hcls : Bundle.fit cls = true) (hnames : ∀ n ∈ names, Bundle.fit n = true) (hk : Cond.classLink M.1.cls ik cls ∈ gT) (hini : Cond.initialized cls ∈ gT) (hstr : (M.1.cls, is, text) ∈ gstr) (hat : ∀ x ∈ vx_atS M.1.cls ic cls names, x ∈ gT)
    (hgood : ∀ x ∈ Cond.classLink M.1.cls ik cls :: Cond.initialized cls :: vx_atS M.1.cls ic cls names, vx_ot x = true)
    (d0 : decode M.2.1 pc = .ok (.new ik, 3)) (d3 : decode M.2.1 (pc + 3) = .ok (.dup, 1)) (d4 : decode M.2.1 (pc + 4) = .ok (.ldc is, 2)) (d6 : decode M.2.1 (pc + 6) = .ok (.invokespecial ic, 3)) (d9 : decode M.2.1 (pc + 9) = .ok (.athrow, 1))
    (hno : ∀ h ∈ M.2.2.2.2, (decide (h.1 ≤ pc + 9) && decide (pc + 9 < h.2.1)) = false) (hr1 : names.length + 3 < d.1) (hr2 : (st.map fun v => v.category).sum + (13 * (names.length + 1) + 43) ≤ d.2) (hc : 1 ≤ k) (hs : 6 ≤ n) (hq : Q (.inr cls) w) : G M d pc ls st w k n Q := by
  intro p l e R s m args below meth c A D dA κ0 n0 C κ H locs lsr cells slots I
  have hH := C.2.2.2.2.2.2.2.2.2.2.2.2.2
  have hR := C.2.2.2.2.2.2.2.2.2.1
  have hts := gts (args := args) C.2.2.2.2.2.1
  obtain ⟨sa, hsa⟩ := hH.2.2.1 _ hstr
  have hcat : ((st.map (gv κ)).map fun v => v.category).sum = (st.map fun v => v.category).sum := by
    rw [List.map_map]
    exact congrArg List.sum (List.map_congr_left (fun v _ => gv_cat κ v))
  have hout : ∀ y ∈ c.exceptionTable.toList, covers y (pc + 9) = false := by
    intro y hy
    exact hno (y.startPc, y.endPc, y.handlerPc, y.catchType) (by rw [← C.2.2.2.2.2.2.2.2.2.2.1]; exact List.mem_map.mpr ⟨y, hy, rfl⟩)
  have hi1 := I.2.1
  have hi2 := I.2.2.1
  have K := vx_throwS (p := p) (l := l) (e := e) (R := R) (s := s) (m := m) (args := args) (below := below) (meth := meth) (c := c) (H := H) (locs := locs) (cells := cells) (slots := slots) (ls := lsr) (rest := st.map (gv κ)) (free := A) (Qc := fun _ _ _ _ => False) (XC := fun E st t => E = cls ∧ s.vm.Alike t.vm ∧ H.size ≤ t.heap.size ∧ ∀ q : Nat, q < H.size → t.heap[q]? = H[q]?) (mc := R.cells) (ms := R.slots)
    C.1 C.2.1 C.2.2.2.2.2.2.2.2.2.2.2.2.1 C.2.2.2.2.1 hcls hnames (hts _ hk) (hts _ hini) hsa (fun x hx => hts x (hat x hx)) hgood hH.1 hH.2.1 I.2.2.2.2.2.2 (by rw [C.2.2.1]; exact I.2.2.2.1.1) d0 d3 d4 d6 d9 hout (by omega) (by rw [hcat]; omega) (by omega) (by omega) C.2.2.2.2.2.2.2.2.1 (fun t h1 h2 h3 => ⟨rfl, h1, h2, h3⟩) I.2.2.2.2.2.2.2.2 (by omega) (by omega)
  intro T hT X
  obtain ⟨t, a1, o, b1, b2, b3⟩ := K T hT X
  rcases b3 with ⟨hF, -⟩ | ⟨q, ho, E, ce, L, ⟨hE, hal, hsz, hkp⟩, hce, hvm, hcl, hwm, hsm, hfr⟩
  · exact hF.elim
  · refine ⟨t, a1, o, b1, b2, ⟨⟨κ, .inr cls, w, hq, ⟨q, ce, ho, hce, by rw [hvm]; rfl, ?_⟩, ?_, I.2.2.2.2.2.1, I.1⟩, ?_⟩, L, ⟨hwm, hsm⟩, hfr⟩
    · rw [← hE, ← hcl]; exact hal.findClass E none
    · exact I.2.2.2.2.1.kept (fun k q h => hkp q.1 (I.2.2.2.2.1 k q h).lt)
    · refine ⟨Nat.le_trans I.2.2.2.2.2.2.1 hsz, fun q h1 h2 => ?_⟩
      rw [hkp q (Nat.lt_of_lt_of_le h1 I.2.2.2.2.2.2.1)]
      exact I.2.2.2.2.2.2.2.1 q h1 h2
theorem GT.caught {E : String} {hp hr : List (Nat × Nat × Nat × Nat)} {h : Nat × Nat × Nat × Nat} (hs : M.2.2.2.2 = hp ++ h :: hr)
    (hpass : ∀ z ∈ hp, (decide (z.1 ≤ pc) && decide (pc < z.2.1)) = false ∨ (z.2.2.2 ≠ 0 ∧ ∃ nm, Cond.classLink M.1.cls z.2.2.2 nm ∈ gT ∧ (E, nm) ∈ gncs)) (hx : (decide (h.1 ≤ pc) && decide (pc < h.2.1)) = true) (h0 : h.2.2.2 ≠ 0) (hlink : Cond.classLink M.1.cls h.2.2.2 E ∈ gT)
    (j len : Nat) (hj : j < M.2.2.1) (hd : (∃ i : Fin 4, (i : Nat) = j ∧ len = 1 ∧ decode M.2.1 h.2.2.1 = .ok (.astore_n i, 1)) ∨ (len = 2 ∧ decode M.2.1 h.2.2.1 = .ok (.astore j, 2))) (kk : G M d (h.2.2.1 + len) (gs0 j ls) [] w k n Q) : GT M d pc ls st w k n E Q := by
  intro p l e R s m args below meth c A D dA κ0 n0 C κ H locs lsr cells slots I x cell T hT X hc1 hc2 hc3
  have hts := gts (args := args) C.2.2.2.2.2.1
  have htab := C.2.2.2.2.2.2.2.2.2.2.1
  rw [hs] at htab
  obtain ⟨pre, r1, e1, e2, e3⟩ := List.map_eq_append_iff.mp htab
  obtain ⟨y, suf, e4, e5, e6⟩ := List.map_eq_cons_iff.mp e3
  subst e5; subst e4
  have hh := C.2.2.2.2.2.2.2.2.2.2.2.2.2.2.2.2
  obtain ⟨vm', X', st'⟩ := gcatch X C.2.2.2.2.1 (by rw [hT]; exact hc1) hc2 hc3 (g := F0 m pc lsr (st.map (gv κ))) rfl pre y suf e1 (fun z hz => by
      rcases hpass (z.startPc, z.endPc, z.handlerPc, z.catchType) (by rw [← e2]; exact List.mem_map.mpr ⟨z, hz, rfl⟩) with q | ⟨q1, nm, q2, q3⟩
      · exact Or.inl q
      · exact Or.inr ⟨q1, nm, hts _ q2, hh _ q3⟩) hx h0 (hts _ hlink)
  have K : W p l e R s m args below meth c H locs cells slots (gZ below s A D dA κ0 n0 R.cells R.slots Q) (F0 m y.handlerPc lsr [.ref x]) := by
    rcases hd with ⟨i, hi, hl, hdd⟩ | ⟨hl, hdd⟩
    · subst hl
      exact lv_astore_n C.1 C.2.1 hdd hi I.2.2.2.1 hj rfl (fun ls' hl' => kk p l e R s m args below meth c A D dA κ0 n0 C κ H locs ls' cells slots ⟨I.1, I.2.1, I.2.2.1, gs0_has hl', I.2.2.2.2⟩)
    · subst hl
      exact lv_astore C.1 C.2.1 hdd I.2.2.2.1 hj rfl (fun ls' hl' => kk p l e R s m args below meth c A D dA κ0 n0 C κ H locs ls' cells slots ⟨I.1, I.2.1, I.2.2.1, gs0_has hl', I.2.2.2.2⟩)
  obtain ⟨t, a1, b1⟩ := K (T.setVm vm') hT X'
  exact ⟨t, st'.trans a1, b1⟩
end GTC
/-! MAKING OBJECTS AND ARRAYS -/
def gab (N : Nat) : gE → Bool
  | .inr o => o.2.all (gvb N)
  | .inl q => match q.2.2 with
    | .inr (.inr (.inr (.inr _))) => false
    | _ => true
def gwf (w : gW) (ls : List (Option Value)) (st : List Value) : Bool := w.all (gab w.length) && glb w.length ls && st.all (gvb w.length)
theorem ge_agree {N : Nat} {dA : Nat → ClassId} {κ κ' : Nat → Nat} (h : ∀ i, i < N → κ' i = κ i) {e : gE} (hv : gab N e = true) : ge dA κ' e = ge dA κ e := by
  cases e with
  | inr o => simp only [ge]; rw [gst_agree h hv]
  | inl q =>
    obtain ⟨t, len, x⟩ := q
    rcases x with x | x | x | x | x
    · rfl
    · rfl
    · rfl
    · rfl
    · exact absurd hv (by simp [gab])
theorem gk_push {dA : Nat → ClassId} {κ : Nat → Nat} {w : gW} {e : gE} {q : Nat} (h : w.all (gab w.length) = true) : gk dA (va_up κ w.length q) (w ++ [e]) = gk dA κ w ++ [(q, ge dA (va_up κ w.length q) e)] := by
  have hup : ∀ i, i < w.length → va_up κ w.length q i = κ i := fun i hi => va_up_ne _ _ (by omega)
  apply List.ext_getElem?
  intro i
  simp only [gk, List.getElem?_mapIdx, List.getElem?_append, List.length_mapIdx]
  by_cases hi : i < w.length
  · rw [if_pos hi, if_pos hi]
    have hw : w[i]? = some w[i] := List.getElem?_eq_getElem hi
    rw [hw]
    simp only [Option.map_some]
    rw [hup i hi, ge_agree hup (List.all_eq_true.mp h _ (List.getElem_mem hi))]
  · rw [if_neg hi, if_neg hi]
    by_cases h2 : i - w.length = 0
    · have h3 : i = w.length := by omega
      subst h3
      simp [va_up_self]
    · obtain ⟨j, hj⟩ := Nat.exists_eq_succ_of_ne_zero h2
      rw [hj]
      simp
section GNW
variable {M : gM} {d : Nat × Nat} {pc : Nat} {ls : List (Option Value)} {st : List Value} {w : gW} {k n : Nat} {Q : gR → gW → Prop}
theorem gI_push {R : Room} {s : State} {A : Nat → Prop} {D : va_G} {dA : Nat → ClassId} {κ0 κ : Nat → Nat} {n0 : Nat} {H H1 : Heap} {locs : List Loc} {lsr : Array Slot} {cells slots q k1 n1 cells1 slots1 : Nat} {e1 : gE} {e2 : va_E} (I : gI M ls w k1 n1 R s A D dA κ0 n0 κ H locs lsr cells slots) (hw : gwf w ls st = true) (he : ge dA (va_up κ w.length q) e1 = e2)
    (hP : va_P D gcls (gk dA κ w ++ [(q, e2)]) H1) (hD : va_D A (gk dA κ w ++ [(q, e2)])) (hS : va_S A s.heap H1 locs) (hc : cells1 + k ≤ R.cells) (hs : slots1 + n ≤ R.slots) : gI M ls (w ++ [e1]) k n R s A D dA κ0 n0 (va_up κ w.length q) H1 locs lsr cells1 slots1 ∧ st.map (gv (va_up κ w.length q)) = st.map (gv κ) := by
  subst he
  simp only [gwf, Bool.and_eq_true] at hw
  have hup : ∀ i, i < w.length → va_up κ w.length q i = κ i := fun i hi => va_up_ne _ _ (by omega)
  rw [← gk_push hw.1.1] at hP hD
  refine ⟨⟨⟨by rw [List.length_append]; exact Nat.le_trans I.1.1 (Nat.le_add_right _ _), fun h => ?_, fun i hi => (hup i (Nat.lt_of_lt_of_le hi I.1.1)).trans (I.1.2.2 i hi)⟩, hc, hs, by rw [gas_agree hup ls 0 hw.1.2]; exact I.2.2.2.1, hP, hD, hS⟩, gst_agree hup hw.2⟩
  rw [List.length_append, List.length_singleton] at h
  have := I.1.1
  omega
theorem g_new {index ci N : Nat} {C : String} {T : u_T} {fs : List Value} {ty : Nat → FieldType} (hd : decode M.2.1 pc = .ok (.new index, 3)) (hcl : gcls[ci]? = some (C, T, N)) (hin : ∀ x ∈ u_ws C T N, x ∈ gT) (hty : ∀ k, k < N → parseFieldDescriptor (T k).2.2.1 = some (ty k)) (hlink : Cond.classLink M.1.cls index C ∈ gT) (hinst : Cond.instantiable C N ∈ gT) (hini : Cond.initialized C ∈ gT)
    (hfs : ∀ j, j < N → defaultValue (ty j) = vp_V fs j) (hnr : ∀ κ, fs.map (gv κ) = fs) (hw : gwf w ls st = true) (kk : G M d (pc + 3) ls (.ref w.length :: st) (w ++ [.inr (ci, fs)]) k n Q) : G M d pc ls st w (k + 1) (n + N) Q := by
  intro p l e R s m args below meth c A D dA κ0 n0 C0 κ H locs lsr cells slots I
  have hts := gts (args := args) C0.2.2.2.2.2.1
  have hi1 := I.2.1
  have hi2 := I.2.2.1
  refine va_new (ci := ci) (fs := fs) (C := C) (T := T) (N := N) C0.1 C0.2.1 hts hin ty hty C0.2.2.2.2.1 (hts _ hlink) (hts _ hinst) (hts _ hini) C0.2.2.2.2.2.2.1 I.2.2.2.2.1 I.2.2.2.2.2.1 I.2.2.2.2.2.2 C0.2.2.2.2.2.2.2.1 hcl hfs (by omega) (by omega) hd (fun q H1 hP hD hS => ?_)
  obtain ⟨I', hst⟩ := gI_push (k := k) (n := n) (st := st) (q := q) (cells1 := cells + 1) (slots1 := slots + N) (e1 := .inr (ci, fs)) I hw (by show Sum.inr _ = Sum.inr _; rw [hnr]) hP hD hS (by omega) (by omega)
  have K := kk p l e R s m args below meth c A D dA κ0 n0 C0 (va_up κ w.length q) H1 locs lsr (cells + 1) (slots + N) I'
  have hst2 : (Value.ref w.length :: st).map (gv (va_up κ w.length q)) = .ref q :: st.map (gv κ) := by
    rw [List.map_cons, hst]; simp only [gv]; rw [va_up_self]
  rw [hst2] at K
  exact K
theorem g_newa {atype : ArrayType} {t N : Nat} {x : Int32} {a0 : vp_A} {ty : FieldType} (hd : decode M.2.1 pc = .ok (.newarray atype, 2)) (hty : newarray.typeOf atype = ty) (harr : Cond.arrayClass ty ∈ gT) (hpr : ∀ C, ty ≠ .object C) (ht : ∀ dA, (gtys dA)[t]? = some (dA t, ty)) (ha : ∀ cA : ClassId, vp_cell cA a0 = arrV cA N (fun _ => defaultValue ty)) (hga : ∀ κ, ga κ a0 = a0)
    (hn : ¬ x < 0) (hN : x.toNatClampNeg = N) (hb : N * componentBytes ty ≤ 536870912) (hw : gwf w ls st = true) (kk : G M d (pc + 2) ls (.ref w.length :: st) (w ++ [.inl (t, a0)]) k n Q) : G M d pc ls (.int x :: st) w (k + 1) (n + N) Q := by
  intro p l e R s m args below meth c A D dA κ0 n0 C0 κ H locs lsr cells slots I
  have hts := gts (args := args) C0.2.2.2.2.2.1
  have hi1 := I.2.1
  have hi2 := I.2.2.1
  refine va_newa (D := D) (a0 := a0) C0.1 C0.2.1 (by rw [hty]; exact hts _ harr) hty C0.2.2.2.2.2.2.1 I.2.2.2.2.1 I.2.2.2.2.2.1 I.2.2.2.2.2.2 C0.2.2.2.2.2.2.2.1 ha hn hN hb (by omega) (by omega) hd (fun q cA H1 hK hP hD hS => ?_)
  have hcA : cA = dA t := by
    have h1 := (C0.2.2.2.2.2.2.1.2 t _ (ht dA)).2
    have h2 := (hK.2 (gtys dA).length (cA, ty) (by simp)).2
    cases ty with
    | object C9 => exact absurd rfl (hpr C9)
    | _ => exact Option.some.inj (h2.symm.trans h1)
  subst hcA
  obtain ⟨I', hst⟩ := gI_push (k := k) (n := n) (st := st) (q := q) (cells1 := cells + 1) (slots1 := slots + N) (e1 := .inl (t, a0)) I hw (by show Sum.inl _ = Sum.inl _; rw [hga]) hP hD hS (by omega) (by omega)
  have K := kk p l e R s m args below meth c A D dA κ0 n0 C0 (va_up κ w.length q) H1 locs lsr (cells + 1) (slots + N) I'
  have hst2 : (Value.ref w.length :: st).map (gv (va_up κ w.length q)) = .ref q :: st.map (gv κ) := by
    rw [List.map_cons, hst]; simp only [gv]; rw [va_up_self]
  rw [hst2] at K
  exact K
theorem g_objInit {index a : Nat} (hd : decode M.2.1 pc = .ok (.invokespecial index, 3)) (hlink : Cond.methodLink M.1.cls index Lib.objectInit ∈ gT) (hinst : Cond.instanceMethod Lib.objectInit ∈ gT) (hcode : Cond.code Lib.objectInit ⟨#[0xb1]⟩ 1 none ∈ gT) (hr1 : 1 ≤ d.1) (hr2 : (st.map fun v => v.category).sum + 12 ≤ d.2) (kk : G M d (pc + 3) ls st w k n Q) : G M d pc ls (.ref a :: st) w k n Q := by
  intro p l e R s m args below meth c A D dA κ0 n0 C κ H locs lsr cells slots I
  have hts := gts (args := args) C.2.2.2.2.2.1
  have hR := C.2.2.2.2.2.2.2.2.2.1
  have hcat : ((st.map (gv κ)).map fun v => v.category).sum = (st.map fun v => v.category).sum := by
    rw [List.map_map]
    exact congrArg List.sum (List.map_congr_left (fun v _ => gv_cat κ v))
  refine W.objInit C.1 C.2.1 C.2.2.2.2.1 (hts _ hlink) (hts _ hinst) (hts _ hcode) rfl (by rw [C.2.2.1]; exact I.2.2.2.1.1) rfl hd (by omega) ?_ (kk p l e R s m args below meth c A D dA κ0 n0 C κ H locs lsr cells slots I)
  have : 2 * (F0 m pc lsr (List.map (gv κ) (Value.ref a :: st))).monitorRoom = 0 := rfl
  rw [this, hcat]
  omega
end GNW
end
