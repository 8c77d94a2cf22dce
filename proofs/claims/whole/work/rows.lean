section
-- ===== PART A: goes FIRST, ahead of the names: the tables' words, and 'selects' of the private methods out of them =====
/-- a private method of a class that the tables say can be made, by its rows of tables_1 -/
def lw_okq (q : MethodName × Nat) : Prop := (q.1.cls ≠ "java/lang/invoke/MethodHandle" ∧ q.1.cls ≠ "java/lang/invoke/VarHandle") ∧ Cond.instantiable q.1.cls q.2 ∈ tables_1 ∧ Cond.privateMethod q.1 ∈ tables_1 ∧ Cond.instanceMethod q.1 ∈ tables_1
theorem lw_p0 : lw_okq (⟨"PackedPages", "refuse", "(I)I"⟩, 14) := ⟨⟨by decide +kernel, by decide +kernel⟩, List.mem_of_getElem? (i := 16) (by decide +kernel), List.mem_of_getElem? (i := 239) (by decide +kernel), List.mem_of_getElem? (i := 240) (by decide +kernel)⟩
theorem lw_p1 : lw_okq (⟨"PackedPages$Frames", "giveUp", "(I)V"⟩, 3) := ⟨⟨by decide +kernel, by decide +kernel⟩, List.mem_of_getElem? (i := 151) (by decide +kernel), List.mem_of_getElem? (i := 247) (by decide +kernel), List.mem_of_getElem? (i := 248) (by decide +kernel)⟩
theorem lw_p2 : lw_okq (⟨"PackedPages", "accept", "(I)I"⟩, 14) := ⟨⟨by decide +kernel, by decide +kernel⟩, List.mem_of_getElem? (i := 16) (by decide +kernel), List.mem_of_getElem? (i := 254) (by decide +kernel), List.mem_of_getElem? (i := 255) (by decide +kernel)⟩
theorem lw_p3 : lw_okq (⟨"PackedPages", "addFour", "(I)V"⟩, 14) := ⟨⟨by decide +kernel, by decide +kernel⟩, List.mem_of_getElem? (i := 16) (by decide +kernel), List.mem_of_getElem? (i := 262) (by decide +kernel), List.mem_of_getElem? (i := 263) (by decide +kernel)⟩
theorem lw_p4 : lw_okq (⟨"PackedPages$Packer", "filterRow", "([III)V"⟩, 8) := ⟨⟨by decide +kernel, by decide +kernel⟩, List.mem_of_getElem? (i := 66) (by decide +kernel), List.mem_of_getElem? (i := 289) (by decide +kernel), List.mem_of_getElem? (i := 290) (by decide +kernel)⟩
theorem lw_p5 : lw_okq (⟨"PackedPages$Packer", "linkSame", "(I)V"⟩, 8) := ⟨⟨by decide +kernel, by decide +kernel⟩, List.mem_of_getElem? (i := 66) (by decide +kernel), List.mem_of_getElem? (i := 296) (by decide +kernel), List.mem_of_getElem? (i := 297) (by decide +kernel)⟩
theorem lw_p6 : lw_okq (⟨"PackedPages$Packer", "longestLike", "(II)I"⟩, 8) := ⟨⟨by decide +kernel, by decide +kernel⟩, List.mem_of_getElem? (i := 66) (by decide +kernel), List.mem_of_getElem? (i := 300) (by decide +kernel), List.mem_of_getElem? (i := 301) (by decide +kernel)⟩
theorem lw_p7 : lw_okq (⟨"PackedPages$Packer", "tellSingles", "(III)I"⟩, 8) := ⟨⟨by decide +kernel, by decide +kernel⟩, List.mem_of_getElem? (i := 66) (by decide +kernel), List.mem_of_getElem? (i := 304) (by decide +kernel), List.mem_of_getElem? (i := 305) (by decide +kernel)⟩
theorem lw_p8 : lw_okq (⟨"PackedPages", "takeTape", "([II)V"⟩, 14) := ⟨⟨by decide +kernel, by decide +kernel⟩, List.mem_of_getElem? (i := 16) (by decide +kernel), List.mem_of_getElem? (i := 309) (by decide +kernel), List.mem_of_getElem? (i := 310) (by decide +kernel)⟩
theorem lw_p9 : lw_okq (⟨"PackedPages$Packer", "unpackSingles", "([IIII)I"⟩, 8) := ⟨⟨by decide +kernel, by decide +kernel⟩, List.mem_of_getElem? (i := 66) (by decide +kernel), List.mem_of_getElem? (i := 322) (by decide +kernel), List.mem_of_getElem? (i := 323) (by decide +kernel)⟩
theorem lw_p10 : lw_okq (⟨"PackedPages$Packer", "unpackLike", "([IIII)I"⟩, 8) := ⟨⟨by decide +kernel, by decide +kernel⟩, List.mem_of_getElem? (i := 66) (by decide +kernel), List.mem_of_getElem? (i := 327) (by decide +kernel), List.mem_of_getElem? (i := 328) (by decide +kernel)⟩
theorem lw_p11 : lw_okq (⟨"PackedPages$Packer", "turnBack", "(II)V"⟩, 8) := ⟨⟨by decide +kernel, by decide +kernel⟩, List.mem_of_getElem? (i := 66) (by decide +kernel), List.mem_of_getElem? (i := 331) (by decide +kernel), List.mem_of_getElem? (i := 332) (by decide +kernel)⟩
theorem lw_p12 : lw_okq (⟨"PackedPages", "layFromTape", "(II)V"⟩, 14) := ⟨⟨by decide +kernel, by decide +kernel⟩, List.mem_of_getElem? (i := 16) (by decide +kernel), List.mem_of_getElem? (i := 346) (by decide +kernel), List.mem_of_getElem? (i := 347) (by decide +kernel)⟩
theorem lw_p13 : lw_okq (⟨"PackedPages", "editAlone", "(II)I"⟩, 14) := ⟨⟨by decide +kernel, by decide +kernel⟩, List.mem_of_getElem? (i := 16) (by decide +kernel), List.mem_of_getElem? (i := 351) (by decide +kernel), List.mem_of_getElem? (i := 352) (by decide +kernel)⟩
theorem lw_p14 : lw_okq (⟨"PackedPages", "pageFor", "(I)I"⟩, 14) := ⟨⟨by decide +kernel, by decide +kernel⟩, List.mem_of_getElem? (i := 16) (by decide +kernel), List.mem_of_getElem? (i := 355) (by decide +kernel), List.mem_of_getElem? (i := 356) (by decide +kernel)⟩
theorem lw_p15 : lw_okq (⟨"PackedPages$Frames", "placeOf", "(I)I"⟩, 3) := ⟨⟨by decide +kernel, by decide +kernel⟩, List.mem_of_getElem? (i := 151) (by decide +kernel), List.mem_of_getElem? (i := 375) (by decide +kernel), List.mem_of_getElem? (i := 376) (by decide +kernel)⟩
def lw_privs_1 : List (MethodName × Nat) := [(⟨"PackedPages", "refuse", "(I)I"⟩, 14), (⟨"PackedPages$Frames", "giveUp", "(I)V"⟩, 3), (⟨"PackedPages", "accept", "(I)I"⟩, 14), (⟨"PackedPages", "addFour", "(I)V"⟩, 14), (⟨"PackedPages$Packer", "filterRow", "([III)V"⟩, 8), (⟨"PackedPages$Packer", "linkSame", "(I)V"⟩, 8), (⟨"PackedPages$Packer", "longestLike", "(II)I"⟩, 8), (⟨"PackedPages$Packer", "tellSingles", "(III)I"⟩, 8), (⟨"PackedPages", "takeTape", "([II)V"⟩, 14), (⟨"PackedPages$Packer", "unpackSingles", "([IIII)I"⟩, 8), (⟨"PackedPages$Packer", "unpackLike", "([IIII)I"⟩, 8), (⟨"PackedPages$Packer", "turnBack", "(II)V"⟩, 8), (⟨"PackedPages", "layFromTape", "(II)V"⟩, 14), (⟨"PackedPages", "editAlone", "(II)I"⟩, 14), (⟨"PackedPages", "pageFor", "(I)I"⟩, 14), (⟨"PackedPages$Frames", "placeOf", "(I)I"⟩, 3)]
theorem lw_r1 : ∀ q ∈ lw_privs_1, lw_okq q := List.forall_mem_cons.mpr ⟨lw_p0, List.forall_mem_cons.mpr ⟨lw_p1, List.forall_mem_cons.mpr ⟨lw_p2, List.forall_mem_cons.mpr ⟨lw_p3, List.forall_mem_cons.mpr ⟨lw_p4, List.forall_mem_cons.mpr ⟨lw_p5, List.forall_mem_cons.mpr ⟨lw_p6, List.forall_mem_cons.mpr ⟨lw_p7, List.forall_mem_cons.mpr ⟨lw_p8, List.forall_mem_cons.mpr ⟨lw_p9, List.forall_mem_cons.mpr ⟨lw_p10, List.forall_mem_cons.mpr ⟨lw_p11, List.forall_mem_cons.mpr ⟨lw_p12, List.forall_mem_cons.mpr ⟨lw_p13, List.forall_mem_cons.mpr ⟨lw_p14, List.forall_mem_cons.mpr ⟨lw_p15, fun _ h => absurd h List.not_mem_nil⟩⟩⟩⟩⟩⟩⟩⟩⟩⟩⟩⟩⟩⟩⟩⟩
theorem lw_p16 : lw_okq (⟨"PackedPages$Records", "addPage", "([III)V"⟩, 4) := ⟨⟨by decide +kernel, by decide +kernel⟩, List.mem_of_getElem? (i := 60) (by decide +kernel), List.mem_of_getElem? (i := 409) (by decide +kernel), List.mem_of_getElem? (i := 410) (by decide +kernel)⟩
theorem lw_p17 : lw_okq (⟨"PackedPages$Records", "takePlain", "(I)V"⟩, 4) := ⟨⟨by decide +kernel, by decide +kernel⟩, List.mem_of_getElem? (i := 60) (by decide +kernel), List.mem_of_getElem? (i := 421) (by decide +kernel), List.mem_of_getElem? (i := 422) (by decide +kernel)⟩
theorem lw_p18 : lw_okq (⟨"PackedPages$Records", "holdsBytes", "(I[II)Z"⟩, 4) := ⟨⟨by decide +kernel, by decide +kernel⟩, List.mem_of_getElem? (i := 60) (by decide +kernel), List.mem_of_getElem? (i := 442) (by decide +kernel), List.mem_of_getElem? (i := 443) (by decide +kernel)⟩
theorem lw_p19 : lw_okq (⟨"PackedPages$Draft", "removeFromDirectory", "(I)V"⟩, 8) := ⟨⟨by decide +kernel, by decide +kernel⟩, List.mem_of_getElem? (i := 54) (by decide +kernel), List.mem_of_getElem? (i := 453) (by decide +kernel), List.mem_of_getElem? (i := 454) (by decide +kernel)⟩
theorem lw_p20 : lw_okq (⟨"PackedPages$Draft", "full", "()I"⟩, 8) := ⟨⟨by decide +kernel, by decide +kernel⟩, List.mem_of_getElem? (i := 54) (by decide +kernel), List.mem_of_getElem? (i := 466) (by decide +kernel), List.mem_of_getElem? (i := 467) (by decide +kernel)⟩
theorem lw_p21 : lw_okq (⟨"PackedPages$Draft", "spread", "(I)I"⟩, 8) := ⟨⟨by decide +kernel, by decide +kernel⟩, List.mem_of_getElem? (i := 54) (by decide +kernel), List.mem_of_getElem? (i := 470) (by decide +kernel), List.mem_of_getElem? (i := 471) (by decide +kernel)⟩
theorem lw_p22 : lw_okq (⟨"PackedPages$Draft", "tryShape", "(II)Z"⟩, 8) := ⟨⟨by decide +kernel, by decide +kernel⟩, List.mem_of_getElem? (i := 54) (by decide +kernel), List.mem_of_getElem? (i := 474) (by decide +kernel), List.mem_of_getElem? (i := 475) (by decide +kernel)⟩
theorem lw_p23 : lw_okq (⟨"PackedPages$Draft", "fitsWith", "(I)Z"⟩, 8) := ⟨⟨by decide +kernel, by decide +kernel⟩, List.mem_of_getElem? (i := 54) (by decide +kernel), List.mem_of_getElem? (i := 487) (by decide +kernel), List.mem_of_getElem? (i := 488) (by decide +kernel)⟩
theorem lw_p24 : lw_okq (⟨"PackedPages$Draft", "learnFromTry", "(Z)V"⟩, 8) := ⟨⟨by decide +kernel, by decide +kernel⟩, List.mem_of_getElem? (i := 54) (by decide +kernel), List.mem_of_getElem? (i := 491) (by decide +kernel), List.mem_of_getElem? (i := 492) (by decide +kernel)⟩
theorem lw_p25 : lw_okq (⟨"PackedPages$Draft", "insertIntoDirectory", "(II)Z"⟩, 8) := ⟨⟨by decide +kernel, by decide +kernel⟩, List.mem_of_getElem? (i := 54) (by decide +kernel), List.mem_of_getElem? (i := 501) (by decide +kernel), List.mem_of_getElem? (i := 502) (by decide +kernel)⟩
theorem lw_p26 : lw_okq (⟨"PackedPages$Draft", "writeBlock", "(I)V"⟩, 8) := ⟨⟨by decide +kernel, by decide +kernel⟩, List.mem_of_getElem? (i := 54) (by decide +kernel), List.mem_of_getElem? (i := 512) (by decide +kernel), List.mem_of_getElem? (i := 513) (by decide +kernel)⟩
theorem lw_p27 : lw_okq (⟨"PackedPages", "carryOut", "(II)I"⟩, 14) := ⟨⟨by decide +kernel, by decide +kernel⟩, List.mem_of_getElem? (i := 16) (by decide +kernel), List.mem_of_getElem? (i := 527) (by decide +kernel), List.mem_of_getElem? (i := 528) (by decide +kernel)⟩
theorem lw_p28 : lw_okq (⟨"PackedPages", "keepAndLearn", "(I)V"⟩, 14) := ⟨⟨by decide +kernel, by decide +kernel⟩, List.mem_of_getElem? (i := 16) (by decide +kernel), List.mem_of_getElem? (i := 531) (by decide +kernel), List.mem_of_getElem? (i := 532) (by decide +kernel)⟩
theorem lw_p29 : lw_okq (⟨"PackedPages$Disk", "startAct", "()V"⟩, 5) := ⟨⟨by decide +kernel, by decide +kernel⟩, List.mem_of_getElem? (i := 24) (by decide +kernel), List.mem_of_getElem? (i := 567) (by decide +kernel), List.mem_of_getElem? (i := 568) (by decide +kernel)⟩
theorem lw_p30 : lw_okq (⟨"PackedPages$Disk", "write", "(II)V"⟩, 5) := ⟨⟨by decide +kernel, by decide +kernel⟩, List.mem_of_getElem? (i := 24) (by decide +kernel), List.mem_of_getElem? (i := 572) (by decide +kernel), List.mem_of_getElem? (i := 573) (by decide +kernel)⟩
theorem lw_p31 : lw_okq (⟨"PackedPages$Disk", "copyIn", "([IIII)V"⟩, 5) := ⟨⟨by decide +kernel, by decide +kernel⟩, List.mem_of_getElem? (i := 24) (by decide +kernel), List.mem_of_getElem? (i := 576) (by decide +kernel), List.mem_of_getElem? (i := 577) (by decide +kernel)⟩
def lw_privs_2 : List (MethodName × Nat) := [(⟨"PackedPages$Records", "addPage", "([III)V"⟩, 4), (⟨"PackedPages$Records", "takePlain", "(I)V"⟩, 4), (⟨"PackedPages$Records", "holdsBytes", "(I[II)Z"⟩, 4), (⟨"PackedPages$Draft", "removeFromDirectory", "(I)V"⟩, 8), (⟨"PackedPages$Draft", "full", "()I"⟩, 8), (⟨"PackedPages$Draft", "spread", "(I)I"⟩, 8), (⟨"PackedPages$Draft", "tryShape", "(II)Z"⟩, 8), (⟨"PackedPages$Draft", "fitsWith", "(I)Z"⟩, 8), (⟨"PackedPages$Draft", "learnFromTry", "(Z)V"⟩, 8), (⟨"PackedPages$Draft", "insertIntoDirectory", "(II)Z"⟩, 8), (⟨"PackedPages$Draft", "writeBlock", "(I)V"⟩, 8), (⟨"PackedPages", "carryOut", "(II)I"⟩, 14), (⟨"PackedPages", "keepAndLearn", "(I)V"⟩, 14), (⟨"PackedPages$Disk", "startAct", "()V"⟩, 5), (⟨"PackedPages$Disk", "write", "(II)V"⟩, 5), (⟨"PackedPages$Disk", "copyIn", "([IIII)V"⟩, 5)]
theorem lw_r2 : ∀ q ∈ lw_privs_2, lw_okq q := List.forall_mem_cons.mpr ⟨lw_p16, List.forall_mem_cons.mpr ⟨lw_p17, List.forall_mem_cons.mpr ⟨lw_p18, List.forall_mem_cons.mpr ⟨lw_p19, List.forall_mem_cons.mpr ⟨lw_p20, List.forall_mem_cons.mpr ⟨lw_p21, List.forall_mem_cons.mpr ⟨lw_p22, List.forall_mem_cons.mpr ⟨lw_p23, List.forall_mem_cons.mpr ⟨lw_p24, List.forall_mem_cons.mpr ⟨lw_p25, List.forall_mem_cons.mpr ⟨lw_p26, List.forall_mem_cons.mpr ⟨lw_p27, List.forall_mem_cons.mpr ⟨lw_p28, List.forall_mem_cons.mpr ⟨lw_p29, List.forall_mem_cons.mpr ⟨lw_p30, List.forall_mem_cons.mpr ⟨lw_p31, fun _ h => absurd h List.not_mem_nil⟩⟩⟩⟩⟩⟩⟩⟩⟩⟩⟩⟩⟩⟩⟩⟩
theorem lw_p32 : lw_okq (⟨"PackedPages", "tellOutcome", "(II)I"⟩, 14) := ⟨⟨by decide +kernel, by decide +kernel⟩, List.mem_of_getElem? (i := 16) (by decide +kernel), List.mem_of_getElem? (i := 580) (by decide +kernel), List.mem_of_getElem? (i := 581) (by decide +kernel)⟩
theorem lw_p33 : lw_okq (⟨"PackedPages", "tellCutOff", "()I"⟩, 14) := ⟨⟨by decide +kernel, by decide +kernel⟩, List.mem_of_getElem? (i := 16) (by decide +kernel), List.mem_of_getElem? (i := 588) (by decide +kernel), List.mem_of_getElem? (i := 589) (by decide +kernel)⟩
theorem lw_p34 : lw_okq (⟨"PackedPages", "rehearse", "()I"⟩, 14) := ⟨⟨by decide +kernel, by decide +kernel⟩, List.mem_of_getElem? (i := 16) (by decide +kernel), List.mem_of_getElem? (i := 618) (by decide +kernel), List.mem_of_getElem? (i := 619) (by decide +kernel)⟩
theorem lw_p35 : lw_okq (⟨"PackedPages", "firstUnreadable", "()I"⟩, 14) := ⟨⟨by decide +kernel, by decide +kernel⟩, List.mem_of_getElem? (i := 16) (by decide +kernel), List.mem_of_getElem? (i := 622) (by decide +kernel), List.mem_of_getElem? (i := 623) (by decide +kernel)⟩
theorem lw_p36 : lw_okq (⟨"PackedPages$Draft", "farthestEnd", "(I)I"⟩, 8) := ⟨⟨by decide +kernel, by decide +kernel⟩, List.mem_of_getElem? (i := 54) (by decide +kernel), List.mem_of_getElem? (i := 646) (by decide +kernel), List.mem_of_getElem? (i := 647) (by decide +kernel)⟩
theorem lw_p37 : lw_okq (⟨"PackedPages$Draft", "fitsByAny", "(II)Z"⟩, 8) := ⟨⟨by decide +kernel, by decide +kernel⟩, List.mem_of_getElem? (i := 54) (by decide +kernel), List.mem_of_getElem? (i := 654) (by decide +kernel), List.mem_of_getElem? (i := 655) (by decide +kernel)⟩
theorem lw_p38 : lw_okq (⟨"PackedPages$Disk", "doJournalAgain", "()V"⟩, 5) := ⟨⟨by decide +kernel, by decide +kernel⟩, List.mem_of_getElem? (i := 24) (by decide +kernel), List.mem_of_getElem? (i := 671) (by decide +kernel), List.mem_of_getElem? (i := 672) (by decide +kernel)⟩
theorem lw_p39 : lw_okq (⟨"PackedPages$Disk", "clearBehindLogs", "()V"⟩, 5) := ⟨⟨by decide +kernel, by decide +kernel⟩, List.mem_of_getElem? (i := 24) (by decide +kernel), List.mem_of_getElem? (i := 677) (by decide +kernel), List.mem_of_getElem? (i := 678) (by decide +kernel)⟩
theorem lw_p40 : lw_okq (⟨"PackedPages", "isOrder", "(I)Z"⟩, 14) := ⟨⟨by decide +kernel, by decide +kernel⟩, List.mem_of_getElem? (i := 16) (by decide +kernel), List.mem_of_getElem? (i := 720) (by decide +kernel), List.mem_of_getElem? (i := 721) (by decide +kernel)⟩
theorem lw_p41 : lw_okq (⟨"PackedPages", "countOnDisk", "(I)I"⟩, 14) := ⟨⟨by decide +kernel, by decide +kernel⟩, List.mem_of_getElem? (i := 16) (by decide +kernel), List.mem_of_getElem? (i := 778) (by decide +kernel), List.mem_of_getElem? (i := 779) (by decide +kernel)⟩
theorem lw_p42 : lw_okq (⟨"PackedPagesModel", "refuses", "(I)I"⟩, 40) := ⟨⟨by decide +kernel, by decide +kernel⟩, List.mem_of_getElem? (i := 786) (by decide +kernel), List.mem_of_getElem? (i := 920) (by decide +kernel), List.mem_of_getElem? (i := 921) (by decide +kernel)⟩
theorem lw_p43 : lw_okq (⟨"PackedPagesModel", "lets", "(I)V"⟩, 40) := ⟨⟨by decide +kernel, by decide +kernel⟩, List.mem_of_getElem? (i := 786) (by decide +kernel), List.mem_of_getElem? (i := 924) (by decide +kernel), List.mem_of_getElem? (i := 925) (by decide +kernel)⟩
theorem lw_p44 : lw_okq (⟨"PackedPagesModel", "tells", "(I)I"⟩, 40) := ⟨⟨by decide +kernel, by decide +kernel⟩, List.mem_of_getElem? (i := 786) (by decide +kernel), List.mem_of_getElem? (i := 928) (by decide +kernel), List.mem_of_getElem? (i := 929) (by decide +kernel)⟩
theorem lw_p45 : lw_okq (⟨"PackedPagesModel", "types", "(I)V"⟩, 40) := ⟨⟨by decide +kernel, by decide +kernel⟩, List.mem_of_getElem? (i := 786) (by decide +kernel), List.mem_of_getElem? (i := 936) (by decide +kernel), List.mem_of_getElem? (i := 937) (by decide +kernel)⟩
theorem lw_p46 : lw_okq (⟨"PackedPagesModel", "shapeOf", "()I"⟩, 40) := ⟨⟨by decide +kernel, by decide +kernel⟩, List.mem_of_getElem? (i := 786) (by decide +kernel), List.mem_of_getElem? (i := 952) (by decide +kernel), List.mem_of_getElem? (i := 953) (by decide +kernel)⟩
theorem lw_p47 : lw_okq (⟨"PackedPagesModel", "packs", "(I)I"⟩, 40) := ⟨⟨by decide +kernel, by decide +kernel⟩, List.mem_of_getElem? (i := 786) (by decide +kernel), List.mem_of_getElem? (i := 956) (by decide +kernel), List.mem_of_getElem? (i := 957) (by decide +kernel)⟩
def lw_privs_3 : List (MethodName × Nat) := [(⟨"PackedPages", "tellOutcome", "(II)I"⟩, 14), (⟨"PackedPages", "tellCutOff", "()I"⟩, 14), (⟨"PackedPages", "rehearse", "()I"⟩, 14), (⟨"PackedPages", "firstUnreadable", "()I"⟩, 14), (⟨"PackedPages$Draft", "farthestEnd", "(I)I"⟩, 8), (⟨"PackedPages$Draft", "fitsByAny", "(II)Z"⟩, 8), (⟨"PackedPages$Disk", "doJournalAgain", "()V"⟩, 5), (⟨"PackedPages$Disk", "clearBehindLogs", "()V"⟩, 5), (⟨"PackedPages", "isOrder", "(I)Z"⟩, 14), (⟨"PackedPages", "countOnDisk", "(I)I"⟩, 14), (⟨"PackedPagesModel", "refuses", "(I)I"⟩, 40), (⟨"PackedPagesModel", "lets", "(I)V"⟩, 40), (⟨"PackedPagesModel", "tells", "(I)I"⟩, 40), (⟨"PackedPagesModel", "types", "(I)V"⟩, 40), (⟨"PackedPagesModel", "shapeOf", "()I"⟩, 40), (⟨"PackedPagesModel", "packs", "(I)I"⟩, 40)]
theorem lw_r3 : ∀ q ∈ lw_privs_3, lw_okq q := List.forall_mem_cons.mpr ⟨lw_p32, List.forall_mem_cons.mpr ⟨lw_p33, List.forall_mem_cons.mpr ⟨lw_p34, List.forall_mem_cons.mpr ⟨lw_p35, List.forall_mem_cons.mpr ⟨lw_p36, List.forall_mem_cons.mpr ⟨lw_p37, List.forall_mem_cons.mpr ⟨lw_p38, List.forall_mem_cons.mpr ⟨lw_p39, List.forall_mem_cons.mpr ⟨lw_p40, List.forall_mem_cons.mpr ⟨lw_p41, List.forall_mem_cons.mpr ⟨lw_p42, List.forall_mem_cons.mpr ⟨lw_p43, List.forall_mem_cons.mpr ⟨lw_p44, List.forall_mem_cons.mpr ⟨lw_p45, List.forall_mem_cons.mpr ⟨lw_p46, List.forall_mem_cons.mpr ⟨lw_p47, fun _ h => absurd h List.not_mem_nil⟩⟩⟩⟩⟩⟩⟩⟩⟩⟩⟩⟩⟩⟩⟩⟩
theorem lw_p48 : lw_okq (⟨"PackedPagesModel", "filteredAt", "(II)I"⟩, 40) := ⟨⟨by decide +kernel, by decide +kernel⟩, List.mem_of_getElem? (i := 786) (by decide +kernel), List.mem_of_getElem? (i := 960) (by decide +kernel), List.mem_of_getElem? (i := 961) (by decide +kernel)⟩
theorem lw_p49 : lw_okq (⟨"PackedPagesModel", "likeFrom", "(II)I"⟩, 40) := ⟨⟨by decide +kernel, by decide +kernel⟩, List.mem_of_getElem? (i := 786) (by decide +kernel), List.mem_of_getElem? (i := 964) (by decide +kernel), List.mem_of_getElem? (i := 965) (by decide +kernel)⟩
theorem lw_p50 : lw_okq (⟨"PackedPagesModel", "emitsSingle", "(II)V"⟩, 40) := ⟨⟨by decide +kernel, by decide +kernel⟩, List.mem_of_getElem? (i := 786) (by decide +kernel), List.mem_of_getElem? (i := 968) (by decide +kernel), List.mem_of_getElem? (i := 969) (by decide +kernel)⟩
theorem lw_p51 : lw_okq (⟨"PackedPagesModel", "emits", "(I)V"⟩, 40) := ⟨⟨by decide +kernel, by decide +kernel⟩, List.mem_of_getElem? (i := 786) (by decide +kernel), List.mem_of_getElem? (i := 972) (by decide +kernel), List.mem_of_getElem? (i := 973) (by decide +kernel)⟩
theorem lw_p52 : lw_okq (⟨"PackedPagesModel", "unpacks", "([IIII)Z"⟩, 40) := ⟨⟨by decide +kernel, by decide +kernel⟩, List.mem_of_getElem? (i := 786) (by decide +kernel), List.mem_of_getElem? (i := 980) (by decide +kernel), List.mem_of_getElem? (i := 981) (by decide +kernel)⟩
theorem lw_p53 : lw_okq (⟨"PackedPagesModel", "flawed", "(I)Z"⟩, 40) := ⟨⟨by decide +kernel, by decide +kernel⟩, List.mem_of_getElem? (i := 786) (by decide +kernel), List.mem_of_getElem? (i := 984) (by decide +kernel), List.mem_of_getElem? (i := 985) (by decide +kernel)⟩
theorem lw_p54 : lw_okq (⟨"PackedPagesModel", "comesOut", "(I)V"⟩, 40) := ⟨⟨by decide +kernel, by decide +kernel⟩, List.mem_of_getElem? (i := 786) (by decide +kernel), List.mem_of_getElem? (i := 988) (by decide +kernel), List.mem_of_getElem? (i := 989) (by decide +kernel)⟩
theorem lw_p55 : lw_okq (⟨"PackedPagesModel", "byTape", "(III)I"⟩, 40) := ⟨⟨by decide +kernel, by decide +kernel⟩, List.mem_of_getElem? (i := 786) (by decide +kernel), List.mem_of_getElem? (i := 1007) (by decide +kernel), List.mem_of_getElem? (i := 1008) (by decide +kernel)⟩
theorem lw_p56 : lw_okq (⟨"PackedPagesModel", "alone", "(I)I"⟩, 40) := ⟨⟨by decide +kernel, by decide +kernel⟩, List.mem_of_getElem? (i := 786) (by decide +kernel), List.mem_of_getElem? (i := 1011) (by decide +kernel), List.mem_of_getElem? (i := 1012) (by decide +kernel)⟩
theorem lw_p57 : lw_okq (⟨"PackedPagesModel", "isDown", "()Z"⟩, 40) := ⟨⟨by decide +kernel, by decide +kernel⟩, List.mem_of_getElem? (i := 786) (by decide +kernel), List.mem_of_getElem? (i := 1015) (by decide +kernel), List.mem_of_getElem? (i := 1016) (by decide +kernel)⟩
theorem lw_p58 : lw_okq (⟨"PackedPagesModel", "uses", "(I)V"⟩, 40) := ⟨⟨by decide +kernel, by decide +kernel⟩, List.mem_of_getElem? (i := 786) (by decide +kernel), List.mem_of_getElem? (i := 1019) (by decide +kernel), List.mem_of_getElem? (i := 1020) (by decide +kernel)⟩
theorem lw_p59 : lw_okq (⟨"PackedPagesModel", "placeHeld", "(I)I"⟩, 40) := ⟨⟨by decide +kernel, by decide +kernel⟩, List.mem_of_getElem? (i := 786) (by decide +kernel), List.mem_of_getElem? (i := 1035) (by decide +kernel), List.mem_of_getElem? (i := 1036) (by decide +kernel)⟩
theorem lw_p60 : lw_okq (⟨"PackedPagesModel", "drafts", "()V"⟩, 40) := ⟨⟨by decide +kernel, by decide +kernel⟩, List.mem_of_getElem? (i := 786) (by decide +kernel), List.mem_of_getElem? (i := 1039) (by decide +kernel), List.mem_of_getElem? (i := 1040) (by decide +kernel)⟩
theorem lw_p61 : lw_okq (⟨"PackedPagesModel", "edits", "([II)I"⟩, 40) := ⟨⟨by decide +kernel, by decide +kernel⟩, List.mem_of_getElem? (i := 786) (by decide +kernel), List.mem_of_getElem? (i := 1043) (by decide +kernel), List.mem_of_getElem? (i := 1044) (by decide +kernel)⟩
theorem lw_p62 : lw_okq (⟨"PackedPagesModel", "laysAlone", "([II)V"⟩, 40) := ⟨⟨by decide +kernel, by decide +kernel⟩, List.mem_of_getElem? (i := 786) (by decide +kernel), List.mem_of_getElem? (i := 1050) (by decide +kernel), List.mem_of_getElem? (i := 1051) (by decide +kernel)⟩
theorem lw_p63 : lw_okq (⟨"PackedPagesModel", "clears", "()V"⟩, 40) := ⟨⟨by decide +kernel, by decide +kernel⟩, List.mem_of_getElem? (i := 786) (by decide +kernel), List.mem_of_getElem? (i := 1054) (by decide +kernel), List.mem_of_getElem? (i := 1055) (by decide +kernel)⟩
def lw_privs_4 : List (MethodName × Nat) := [(⟨"PackedPagesModel", "filteredAt", "(II)I"⟩, 40), (⟨"PackedPagesModel", "likeFrom", "(II)I"⟩, 40), (⟨"PackedPagesModel", "emitsSingle", "(II)V"⟩, 40), (⟨"PackedPagesModel", "emits", "(I)V"⟩, 40), (⟨"PackedPagesModel", "unpacks", "([IIII)Z"⟩, 40), (⟨"PackedPagesModel", "flawed", "(I)Z"⟩, 40), (⟨"PackedPagesModel", "comesOut", "(I)V"⟩, 40), (⟨"PackedPagesModel", "byTape", "(III)I"⟩, 40), (⟨"PackedPagesModel", "alone", "(I)I"⟩, 40), (⟨"PackedPagesModel", "isDown", "()Z"⟩, 40), (⟨"PackedPagesModel", "uses", "(I)V"⟩, 40), (⟨"PackedPagesModel", "placeHeld", "(I)I"⟩, 40), (⟨"PackedPagesModel", "drafts", "()V"⟩, 40), (⟨"PackedPagesModel", "edits", "([II)I"⟩, 40), (⟨"PackedPagesModel", "laysAlone", "([II)V"⟩, 40), (⟨"PackedPagesModel", "clears", "()V"⟩, 40)]
theorem lw_r4 : ∀ q ∈ lw_privs_4, lw_okq q := List.forall_mem_cons.mpr ⟨lw_p48, List.forall_mem_cons.mpr ⟨lw_p49, List.forall_mem_cons.mpr ⟨lw_p50, List.forall_mem_cons.mpr ⟨lw_p51, List.forall_mem_cons.mpr ⟨lw_p52, List.forall_mem_cons.mpr ⟨lw_p53, List.forall_mem_cons.mpr ⟨lw_p54, List.forall_mem_cons.mpr ⟨lw_p55, List.forall_mem_cons.mpr ⟨lw_p56, List.forall_mem_cons.mpr ⟨lw_p57, List.forall_mem_cons.mpr ⟨lw_p58, List.forall_mem_cons.mpr ⟨lw_p59, List.forall_mem_cons.mpr ⟨lw_p60, List.forall_mem_cons.mpr ⟨lw_p61, List.forall_mem_cons.mpr ⟨lw_p62, List.forall_mem_cons.mpr ⟨lw_p63, fun _ h => absurd h List.not_mem_nil⟩⟩⟩⟩⟩⟩⟩⟩⟩⟩⟩⟩⟩⟩⟩⟩
theorem lw_p64 : lw_okq (⟨"PackedPagesModel", "lays", "([III)V"⟩, 40) := ⟨⟨by decide +kernel, by decide +kernel⟩, List.mem_of_getElem? (i := 786) (by decide +kernel), List.mem_of_getElem? (i := 1058) (by decide +kernel), List.mem_of_getElem? (i := 1059) (by decide +kernel)⟩
theorem lw_p65 : lw_okq (⟨"PackedPagesModel", "laysPacked", "([II)V"⟩, 40) := ⟨⟨by decide +kernel, by decide +kernel⟩, List.mem_of_getElem? (i := 786) (by decide +kernel), List.mem_of_getElem? (i := 1062) (by decide +kernel), List.mem_of_getElem? (i := 1063) (by decide +kernel)⟩
theorem lw_p66 : lw_okq (⟨"PackedPagesModel", "does", "([II)V"⟩, 40) := ⟨⟨by decide +kernel, by decide +kernel⟩, List.mem_of_getElem? (i := 786) (by decide +kernel), List.mem_of_getElem? (i := 1072) (by decide +kernel), List.mem_of_getElem? (i := 1073) (by decide +kernel)⟩
theorem lw_p67 : lw_okq (⟨"PackedPagesModel", "cant", "([II)I"⟩, 40) := ⟨⟨by decide +kernel, by decide +kernel⟩, List.mem_of_getElem? (i := 786) (by decide +kernel), List.mem_of_getElem? (i := 1076) (by decide +kernel), List.mem_of_getElem? (i := 1077) (by decide +kernel)⟩
theorem lw_p68 : lw_okq (⟨"PackedPagesModel", "plainOf", "(II)I"⟩, 40) := ⟨⟨by decide +kernel, by decide +kernel⟩, List.mem_of_getElem? (i := 786) (by decide +kernel), List.mem_of_getElem? (i := 1080) (by decide +kernel), List.mem_of_getElem? (i := 1081) (by decide +kernel)⟩
theorem lw_p69 : lw_okq (⟨"PackedPagesModel", "recordMany", "()I"⟩, 40) := ⟨⟨by decide +kernel, by decide +kernel⟩, List.mem_of_getElem? (i := 786) (by decide +kernel), List.mem_of_getElem? (i := 1084) (by decide +kernel), List.mem_of_getElem? (i := 1085) (by decide +kernel)⟩
theorem lw_p70 : lw_okq (⟨"PackedPagesModel", "goes", "(I)V"⟩, 40) := ⟨⟨by decide +kernel, by decide +kernel⟩, List.mem_of_getElem? (i := 786) (by decide +kernel), List.mem_of_getElem? (i := 1088) (by decide +kernel), List.mem_of_getElem? (i := 1089) (by decide +kernel)⟩
theorem lw_p71 : lw_okq (⟨"PackedPagesModel", "full", "()I"⟩, 40) := ⟨⟨by decide +kernel, by decide +kernel⟩, List.mem_of_getElem? (i := 786) (by decide +kernel), List.mem_of_getElem? (i := 1095) (by decide +kernel), List.mem_of_getElem? (i := 1096) (by decide +kernel)⟩
theorem lw_p72 : lw_okq (⟨"PackedPagesModel", "spreadsPage", "(I)I"⟩, 40) := ⟨⟨by decide +kernel, by decide +kernel⟩, List.mem_of_getElem? (i := 786) (by decide +kernel), List.mem_of_getElem? (i := 1099) (by decide +kernel), List.mem_of_getElem? (i := 1100) (by decide +kernel)⟩
theorem lw_p73 : lw_okq (⟨"PackedPagesModel", "spreads", "()V"⟩, 40) := ⟨⟨by decide +kernel, by decide +kernel⟩, List.mem_of_getElem? (i := 786) (by decide +kernel), List.mem_of_getElem? (i := 1103) (by decide +kernel), List.mem_of_getElem? (i := 1104) (by decide +kernel)⟩
theorem lw_p74 : lw_okq (⟨"PackedPagesModel", "waits", "(II)V"⟩, 40) := ⟨⟨by decide +kernel, by decide +kernel⟩, List.mem_of_getElem? (i := 786) (by decide +kernel), List.mem_of_getElem? (i := 1107) (by decide +kernel), List.mem_of_getElem? (i := 1108) (by decide +kernel)⟩
theorem lw_p75 : lw_okq (⟨"PackedPagesModel", "isPart", "(II)Z"⟩, 40) := ⟨⟨by decide +kernel, by decide +kernel⟩, List.mem_of_getElem? (i := 786) (by decide +kernel), List.mem_of_getElem? (i := 1111) (by decide +kernel), List.mem_of_getElem? (i := 1112) (by decide +kernel)⟩
theorem lw_p76 : lw_okq (⟨"PackedPagesModel", "keysFrom", "(II)I"⟩, 40) := ⟨⟨by decide +kernel, by decide +kernel⟩, List.mem_of_getElem? (i := 786) (by decide +kernel), List.mem_of_getElem? (i := 1115) (by decide +kernel), List.mem_of_getElem? (i := 1116) (by decide +kernel)⟩
theorem lw_p77 : lw_okq (⟨"PackedPagesModel", "fits", "(II)Z"⟩, 40) := ⟨⟨by decide +kernel, by decide +kernel⟩, List.mem_of_getElem? (i := 786) (by decide +kernel), List.mem_of_getElem? (i := 1119) (by decide +kernel), List.mem_of_getElem? (i := 1120) (by decide +kernel)⟩
theorem lw_p78 : lw_okq (⟨"PackedPagesModel", "laysPlain", "(II)V"⟩, 40) := ⟨⟨by decide +kernel, by decide +kernel⟩, List.mem_of_getElem? (i := 786) (by decide +kernel), List.mem_of_getElem? (i := 1123) (by decide +kernel), List.mem_of_getElem? (i := 1124) (by decide +kernel)⟩
theorem lw_p79 : lw_okq (⟨"PackedPagesModel", "learns", "(Z)V"⟩, 40) := ⟨⟨by decide +kernel, by decide +kernel⟩, List.mem_of_getElem? (i := 786) (by decide +kernel), List.mem_of_getElem? (i := 1127) (by decide +kernel), List.mem_of_getElem? (i := 1128) (by decide +kernel)⟩
def lw_privs_5 : List (MethodName × Nat) := [(⟨"PackedPagesModel", "lays", "([III)V"⟩, 40), (⟨"PackedPagesModel", "laysPacked", "([II)V"⟩, 40), (⟨"PackedPagesModel", "does", "([II)V"⟩, 40), (⟨"PackedPagesModel", "cant", "([II)I"⟩, 40), (⟨"PackedPagesModel", "plainOf", "(II)I"⟩, 40), (⟨"PackedPagesModel", "recordMany", "()I"⟩, 40), (⟨"PackedPagesModel", "goes", "(I)V"⟩, 40), (⟨"PackedPagesModel", "full", "()I"⟩, 40), (⟨"PackedPagesModel", "spreadsPage", "(I)I"⟩, 40), (⟨"PackedPagesModel", "spreads", "()V"⟩, 40), (⟨"PackedPagesModel", "waits", "(II)V"⟩, 40), (⟨"PackedPagesModel", "isPart", "(II)Z"⟩, 40), (⟨"PackedPagesModel", "keysFrom", "(II)I"⟩, 40), (⟨"PackedPagesModel", "fits", "(II)Z"⟩, 40), (⟨"PackedPagesModel", "laysPlain", "(II)V"⟩, 40), (⟨"PackedPagesModel", "learns", "(Z)V"⟩, 40)]
theorem lw_r5 : ∀ q ∈ lw_privs_5, lw_okq q := List.forall_mem_cons.mpr ⟨lw_p64, List.forall_mem_cons.mpr ⟨lw_p65, List.forall_mem_cons.mpr ⟨lw_p66, List.forall_mem_cons.mpr ⟨lw_p67, List.forall_mem_cons.mpr ⟨lw_p68, List.forall_mem_cons.mpr ⟨lw_p69, List.forall_mem_cons.mpr ⟨lw_p70, List.forall_mem_cons.mpr ⟨lw_p71, List.forall_mem_cons.mpr ⟨lw_p72, List.forall_mem_cons.mpr ⟨lw_p73, List.forall_mem_cons.mpr ⟨lw_p74, List.forall_mem_cons.mpr ⟨lw_p75, List.forall_mem_cons.mpr ⟨lw_p76, List.forall_mem_cons.mpr ⟨lw_p77, List.forall_mem_cons.mpr ⟨lw_p78, List.forall_mem_cons.mpr ⟨lw_p79, fun _ h => absurd h List.not_mem_nil⟩⟩⟩⟩⟩⟩⟩⟩⟩⟩⟩⟩⟩⟩⟩⟩
theorem lw_p80 : lw_okq (⟨"PackedPagesModel", "middleOf", "(II)I"⟩, 40) := ⟨⟨by decide +kernel, by decide +kernel⟩, List.mem_of_getElem? (i := 786) (by decide +kernel), List.mem_of_getElem? (i := 1131) (by decide +kernel), List.mem_of_getElem? (i := 1132) (by decide +kernel)⟩
theorem lw_p81 : lw_okq (⟨"PackedPagesModel", "lowestFree", "()I"⟩, 40) := ⟨⟨by decide +kernel, by decide +kernel⟩, List.mem_of_getElem? (i := 786) (by decide +kernel), List.mem_of_getElem? (i := 1135) (by decide +kernel), List.mem_of_getElem? (i := 1136) (by decide +kernel)⟩
theorem lw_p82 : lw_okq (⟨"PackedPagesModel", "shapes", "(III)V"⟩, 40) := ⟨⟨by decide +kernel, by decide +kernel⟩, List.mem_of_getElem? (i := 786) (by decide +kernel), List.mem_of_getElem? (i := 1139) (by decide +kernel), List.mem_of_getElem? (i := 1140) (by decide +kernel)⟩
theorem lw_p83 : lw_okq (⟨"PackedPagesModel", "lowestKey", "(II)I"⟩, 40) := ⟨⟨by decide +kernel, by decide +kernel⟩, List.mem_of_getElem? (i := 786) (by decide +kernel), List.mem_of_getElem? (i := 1143) (by decide +kernel), List.mem_of_getElem? (i := 1144) (by decide +kernel)⟩
theorem lw_p84 : lw_okq (⟨"PackedPagesModel", "comes", "(III)V"⟩, 40) := ⟨⟨by decide +kernel, by decide +kernel⟩, List.mem_of_getElem? (i := 786) (by decide +kernel), List.mem_of_getElem? (i := 1147) (by decide +kernel), List.mem_of_getElem? (i := 1148) (by decide +kernel)⟩
theorem lw_p85 : lw_okq (⟨"PackedPagesModel", "keeps", "(I)V"⟩, 40) := ⟨⟨by decide +kernel, by decide +kernel⟩, List.mem_of_getElem? (i := 786) (by decide +kernel), List.mem_of_getElem? (i := 1151) (by decide +kernel), List.mem_of_getElem? (i := 1152) (by decide +kernel)⟩
theorem lw_p86 : lw_okq (⟨"PackedPagesModel", "beginsWriting", "()V"⟩, 40) := ⟨⟨by decide +kernel, by decide +kernel⟩, List.mem_of_getElem? (i := 786) (by decide +kernel), List.mem_of_getElem? (i := 1155) (by decide +kernel), List.mem_of_getElem? (i := 1156) (by decide +kernel)⟩
theorem lw_p87 : lw_okq (⟨"PackedPagesModel", "writes", "(II)V"⟩, 40) := ⟨⟨by decide +kernel, by decide +kernel⟩, List.mem_of_getElem? (i := 786) (by decide +kernel), List.mem_of_getElem? (i := 1159) (by decide +kernel), List.mem_of_getElem? (i := 1160) (by decide +kernel)⟩
theorem lw_p88 : lw_okq (⟨"PackedPagesModel", "throughJournal", "()V"⟩, 40) := ⟨⟨by decide +kernel, by decide +kernel⟩, List.mem_of_getElem? (i := 786) (by decide +kernel), List.mem_of_getElem? (i := 1163) (by decide +kernel), List.mem_of_getElem? (i := 1164) (by decide +kernel)⟩
theorem lw_p89 : lw_okq (⟨"PackedPagesModel", "directoryMany", "([I)I"⟩, 40) := ⟨⟨by decide +kernel, by decide +kernel⟩, List.mem_of_getElem? (i := 786) (by decide +kernel), List.mem_of_getElem? (i := 1167) (by decide +kernel), List.mem_of_getElem? (i := 1168) (by decide +kernel)⟩
theorem lw_p90 : lw_okq (⟨"PackedPagesModel", "ends", "(I)I"⟩, 40) := ⟨⟨by decide +kernel, by decide +kernel⟩, List.mem_of_getElem? (i := 786) (by decide +kernel), List.mem_of_getElem? (i := 1171) (by decide +kernel), List.mem_of_getElem? (i := 1172) (by decide +kernel)⟩
theorem lw_p91 : lw_okq (⟨"PackedPagesModel", "letsFree", "()V"⟩, 40) := ⟨⟨by decide +kernel, by decide +kernel⟩, List.mem_of_getElem? (i := 786) (by decide +kernel), List.mem_of_getElem? (i := 1175) (by decide +kernel), List.mem_of_getElem? (i := 1176) (by decide +kernel)⟩
theorem lw_p92 : lw_okq (⟨"PackedPagesModel", "isInUse", "(I)Z"⟩, 40) := ⟨⟨by decide +kernel, by decide +kernel⟩, List.mem_of_getElem? (i := 786) (by decide +kernel), List.mem_of_getElem? (i := 1179) (by decide +kernel), List.mem_of_getElem? (i := 1180) (by decide +kernel)⟩
theorem lw_p93 : lw_okq (⟨"PackedPagesModel", "drafted", "(I)I"⟩, 40) := ⟨⟨by decide +kernel, by decide +kernel⟩, List.mem_of_getElem? (i := 786) (by decide +kernel), List.mem_of_getElem? (i := 1199) (by decide +kernel), List.mem_of_getElem? (i := 1200) (by decide +kernel)⟩
theorem lw_p94 : lw_okq (⟨"PackedPagesModel", "laysAll", "([I)V"⟩, 40) := ⟨⟨by decide +kernel, by decide +kernel⟩, List.mem_of_getElem? (i := 786) (by decide +kernel), List.mem_of_getElem? (i := 1214) (by decide +kernel), List.mem_of_getElem? (i := 1215) (by decide +kernel)⟩
theorem lw_p95 : lw_okq (⟨"PackedPagesModel", "lastTogether", "(I)I"⟩, 40) := ⟨⟨by decide +kernel, by decide +kernel⟩, List.mem_of_getElem? (i := 786) (by decide +kernel), List.mem_of_getElem? (i := 1218) (by decide +kernel), List.mem_of_getElem? (i := 1219) (by decide +kernel)⟩
def lw_privs_6 : List (MethodName × Nat) := [(⟨"PackedPagesModel", "middleOf", "(II)I"⟩, 40), (⟨"PackedPagesModel", "lowestFree", "()I"⟩, 40), (⟨"PackedPagesModel", "shapes", "(III)V"⟩, 40), (⟨"PackedPagesModel", "lowestKey", "(II)I"⟩, 40), (⟨"PackedPagesModel", "comes", "(III)V"⟩, 40), (⟨"PackedPagesModel", "keeps", "(I)V"⟩, 40), (⟨"PackedPagesModel", "beginsWriting", "()V"⟩, 40), (⟨"PackedPagesModel", "writes", "(II)V"⟩, 40), (⟨"PackedPagesModel", "throughJournal", "()V"⟩, 40), (⟨"PackedPagesModel", "directoryMany", "([I)I"⟩, 40), (⟨"PackedPagesModel", "ends", "(I)I"⟩, 40), (⟨"PackedPagesModel", "letsFree", "()V"⟩, 40), (⟨"PackedPagesModel", "isInUse", "(I)Z"⟩, 40), (⟨"PackedPagesModel", "drafted", "(I)I"⟩, 40), (⟨"PackedPagesModel", "laysAll", "([I)V"⟩, 40), (⟨"PackedPagesModel", "lastTogether", "(I)I"⟩, 40)]
theorem lw_r6 : ∀ q ∈ lw_privs_6, lw_okq q := List.forall_mem_cons.mpr ⟨lw_p80, List.forall_mem_cons.mpr ⟨lw_p81, List.forall_mem_cons.mpr ⟨lw_p82, List.forall_mem_cons.mpr ⟨lw_p83, List.forall_mem_cons.mpr ⟨lw_p84, List.forall_mem_cons.mpr ⟨lw_p85, List.forall_mem_cons.mpr ⟨lw_p86, List.forall_mem_cons.mpr ⟨lw_p87, List.forall_mem_cons.mpr ⟨lw_p88, List.forall_mem_cons.mpr ⟨lw_p89, List.forall_mem_cons.mpr ⟨lw_p90, List.forall_mem_cons.mpr ⟨lw_p91, List.forall_mem_cons.mpr ⟨lw_p92, List.forall_mem_cons.mpr ⟨lw_p93, List.forall_mem_cons.mpr ⟨lw_p94, List.forall_mem_cons.mpr ⟨lw_p95, fun _ h => absurd h List.not_mem_nil⟩⟩⟩⟩⟩⟩⟩⟩⟩⟩⟩⟩⟩⟩⟩⟩
theorem lw_p96 : lw_okq (⟨"PackedPagesModel", "comesBack", "()V"⟩, 40) := ⟨⟨by decide +kernel, by decide +kernel⟩, List.mem_of_getElem? (i := 786) (by decide +kernel), List.mem_of_getElem? (i := 1230) (by decide +kernel), List.mem_of_getElem? (i := 1231) (by decide +kernel)⟩
theorem lw_p97 : lw_okq (⟨"PackedPagesModel", "wipes", "(I)V"⟩, 40) := ⟨⟨by decide +kernel, by decide +kernel⟩, List.mem_of_getElem? (i := 786) (by decide +kernel), List.mem_of_getElem? (i := 1234) (by decide +kernel), List.mem_of_getElem? (i := 1235) (by decide +kernel)⟩
theorem lw_p98 : lw_okq (⟨"PackedPagesModel", "isPlace", "(I)Z"⟩, 40) := ⟨⟨by decide +kernel, by decide +kernel⟩, List.mem_of_getElem? (i := 786) (by decide +kernel), List.mem_of_getElem? (i := 1258) (by decide +kernel), List.mem_of_getElem? (i := 1259) (by decide +kernel)⟩
theorem lw_p99 : lw_okq (⟨"PackedPagesModel", "ofAll", "(I)I"⟩, 40) := ⟨⟨by decide +kernel, by decide +kernel⟩, List.mem_of_getElem? (i := 786) (by decide +kernel), List.mem_of_getElem? (i := 1293) (by decide +kernel), List.mem_of_getElem? (i := 1294) (by decide +kernel)⟩
def lw_privs_7 : List (MethodName × Nat) := [(⟨"PackedPagesModel", "comesBack", "()V"⟩, 40), (⟨"PackedPagesModel", "wipes", "(I)V"⟩, 40), (⟨"PackedPagesModel", "isPlace", "(I)Z"⟩, 40), (⟨"PackedPagesModel", "ofAll", "(I)I"⟩, 40)]
theorem lw_r7 : ∀ q ∈ lw_privs_7, lw_okq q := List.forall_mem_cons.mpr ⟨lw_p96, List.forall_mem_cons.mpr ⟨lw_p97, List.forall_mem_cons.mpr ⟨lw_p98, List.forall_mem_cons.mpr ⟨lw_p99, fun _ h => absurd h List.not_mem_nil⟩⟩⟩⟩
def lw_privs : List (MethodName × Nat) := lw_privs_1 ++ (lw_privs_2 ++ (lw_privs_3 ++ (lw_privs_4 ++ (lw_privs_5 ++ (lw_privs_6 ++ (lw_privs_7))))))
def lw_tbl : List Cond := k2_sels lw_privs ++ tables_1
theorem lw_privs_ok : ∀ q ∈ lw_privs, lw_okq q := by
  show ∀ q ∈ lw_privs_1 ++ (lw_privs_2 ++ (lw_privs_3 ++ (lw_privs_4 ++ (lw_privs_5 ++ (lw_privs_6 ++ (lw_privs_7)))))), lw_okq q
  exact List.forall_mem_append.mpr ⟨lw_r1, List.forall_mem_append.mpr ⟨lw_r2, List.forall_mem_append.mpr ⟨lw_r3, List.forall_mem_append.mpr ⟨lw_r4, List.forall_mem_append.mpr ⟨lw_r5, List.forall_mem_append.mpr ⟨lw_r6, lw_r7⟩⟩⟩⟩⟩⟩
end
section
def RX0 : String := "PackedPages$Disk"
def TX0 : u_T := fun k => match k with
  | 0 => ("PackedPages$Disk", "row", "[I", true)
  | 1 => ("PackedPages$Disk", "fuseLeft", "I", false)
  | 2 => ("PackedPages$Disk", "down", "Z", false)
  | 3 => ("PackedPages$Disk", "blown", "Z", false)
  | _ => ("PackedPages$Disk", "wrote", "I", false)
def tyX0 : Nat → FieldType := fun k => match k with
  | 0 => .array .int
  | 1 => .int
  | 2 => .boolean
  | 3 => .boolean
  | _ => .int
abbrev wsX00 : List Cond := u_ws RX0 TX0 5
theorem nmX0 : ∀ a, a < 5 → ∀ b, b < 5 → a ≠ b → (TX0 a).2.1 ≠ (TX0 b).2.1 := by decide +kernel
theorem tyX0_ok : ∀ k, k < 5 → parseFieldDescriptor (TX0 k).2.2.1 = some (tyX0 k) := by decide +kernel
abbrev cX0_init : ByteArray := prog_2_method_1_code
def yX0_init : MethodName := ⟨RX0, "<init>", "()V"⟩
abbrev cX0_startAct : ByteArray := prog_2_method_2_code
def yX0_startAct : MethodName := ⟨RX0, "startAct", "()V"⟩
abbrev cX0_write : ByteArray := prog_2_method_3_code
def yX0_write : MethodName := ⟨RX0, "write", "(II)V"⟩
abbrev cX0_writeEntry : ByteArray := prog_2_method_4_code
def yX0_writeEntry : MethodName := ⟨RX0, "writeEntry", "(I[I)V"⟩
abbrev cX0_writeThroughJournal : ByteArray := prog_2_method_5_code
def yX0_writeThroughJournal : MethodName := ⟨RX0, "writeThroughJournal", "([I[I)V"⟩
abbrev cX0_copyIn : ByteArray := prog_2_method_6_code
def yX0_copyIn : MethodName := ⟨RX0, "copyIn", "([IIII)V"⟩
abbrev cX0_restoreOrder : ByteArray := prog_2_method_7_code
def yX0_restoreOrder : MethodName := ⟨RX0, "restoreOrder", "()V"⟩
abbrev cX0_doJournalAgain : ByteArray := prog_2_method_8_code
def yX0_doJournalAgain : MethodName := ⟨RX0, "doJournalAgain", "()V"⟩
abbrev cX0_clearBehindLogs : ByteArray := prog_2_method_9_code
def yX0_clearBehindLogs : MethodName := ⟨RX0, "clearBehindLogs", "()V"⟩
def RX1 : String := "PackedPages$Draft"
def TX1 : u_T := fun k => match k with
  | 0 => ("PackedPages$Draft", "row", "[I", true)
  | 1 => ("PackedPages$Draft", "learned", "[I", true)
  | 2 => ("PackedPages$Draft", "anew", "[I", true)
  | 3 => ("PackedPages$Draft", "loggedAt", "I", false)
  | 4 => ("PackedPages$Draft", "records", "LPackedPages$Records;", true)
  | 5 => ("PackedPages$Draft", "settings", "[I", true)
  | 6 => ("PackedPages$Draft", "ends", "[I", true)
  | _ => ("PackedPages$Draft", "shapeSize", "I", false)
def tyX1 : Nat → FieldType := fun k => match k with
  | 0 => .array .int
  | 1 => .array .int
  | 2 => .array .int
  | 3 => .int
  | 4 => .object "PackedPages$Records"
  | 5 => .array .int
  | 6 => .array .int
  | _ => .int
abbrev wsX10 : List Cond := u_ws RX1 TX1 8
theorem nmX1 : ∀ a, a < 8 → ∀ b, b < 8 → a ≠ b → (TX1 a).2.1 ≠ (TX1 b).2.1 := by decide +kernel
theorem tyX1_ok : ∀ k, k < 8 → parseFieldDescriptor (TX1 k).2.2.1 = some (tyX1 k) := by decide +kernel
abbrev cX1_init : ByteArray := prog_3_method_1_code
def yX1_init : MethodName := ⟨RX1, "<init>", "()V"⟩
abbrev cX1_begin : ByteArray := prog_3_method_2_code
def yX1_begin : MethodName := ⟨RX1, "begin", "([I[I[I)V"⟩
abbrev cX1_edit : ByteArray := prog_3_method_3_code
def yX1_edit : MethodName := ⟨RX1, "edit", "([II)I"⟩
abbrev cX1_full : ByteArray := prog_3_method_4_code
def yX1_full : MethodName := ⟨RX1, "full", "()I"⟩
abbrev cX1_spread : ByteArray := prog_3_method_5_code
def yX1_spread : MethodName := ⟨RX1, "spread", "(I)I"⟩
abbrev cX1_tryShape : ByteArray := prog_3_method_6_code
def yX1_tryShape : MethodName := ⟨RX1, "tryShape", "(II)Z"⟩
abbrev cX1_fitsWith : ByteArray := prog_3_method_7_code
def yX1_fitsWith : MethodName := ⟨RX1, "fitsWith", "(I)Z"⟩
abbrev cX1_learnFromTry : ByteArray := prog_3_method_8_code
def yX1_learnFromTry : MethodName := ⟨RX1, "learnFromTry", "(Z)V"⟩
abbrev cX1_writeBlock : ByteArray := prog_3_method_9_code
def yX1_writeBlock : MethodName := ⟨RX1, "writeBlock", "(I)V"⟩
abbrev cX1_insertIntoDirectory : ByteArray := prog_3_method_10_code
def yX1_insertIntoDirectory : MethodName := ⟨RX1, "insertIntoDirectory", "(II)Z"⟩
abbrev cX1_removeFromDirectory : ByteArray := prog_3_method_11_code
def yX1_removeFromDirectory : MethodName := ⟨RX1, "removeFromDirectory", "(I)V"⟩
abbrev cX1_compactAll : ByteArray := prog_3_method_12_code
def yX1_compactAll : MethodName := ⟨RX1, "compactAll", "()I"⟩
abbrev cX1_farthestEnd : ByteArray := prog_3_method_13_code
def yX1_farthestEnd : MethodName := ⟨RX1, "farthestEnd", "(I)I"⟩
abbrev cX1_fitsByAny : ByteArray := prog_3_method_14_code
def yX1_fitsByAny : MethodName := ⟨RX1, "fitsByAny", "(II)Z"⟩
abbrev cX1_markDifferent : ByteArray := prog_3_method_15_code
def yX1_markDifferent : MethodName := ⟨RX1, "markDifferent", "([I)V"⟩
abbrev cX1_bytesThroughJournal : ByteArray := prog_3_method_16_code
def yX1_bytesThroughJournal : MethodName := ⟨RX1, "bytesThroughJournal", "()I"⟩
def RX2 : String := "PackedPages$Entry"
def TX2 : u_T := fun k => match k with
  | _ => ("", "", "", false)
def tyX2 : Nat → FieldType := fun k => match k with
  | _ => .int
abbrev wsX20 : List Cond := u_ws RX2 TX2 0
theorem nmX2 : ∀ a, a < 0 → ∀ b, b < 0 → a ≠ b → (TX2 a).2.1 ≠ (TX2 b).2.1 := by decide +kernel
theorem tyX2_ok : ∀ k, k < 0 → parseFieldDescriptor (TX2 k).2.2.1 = some (tyX2 k) := by decide +kernel
abbrev cX2_kindOf : ByteArray := prog_4_method_2_code
def yX2_kindOf : MethodName := ⟨RX2, "kindOf", "(I)I"⟩
abbrev cX2_numberOf : ByteArray := prog_4_method_3_code
def yX2_numberOf : MethodName := ⟨RX2, "numberOf", "(I)I"⟩
abbrev cX2_sizeBy : ByteArray := prog_4_method_4_code
def yX2_sizeBy : MethodName := ⟨RX2, "sizeBy", "(I)I"⟩
abbrev cX2_sizeAt : ByteArray := prog_4_method_5_code
def yX2_sizeAt : MethodName := ⟨RX2, "sizeAt", "([III)I"⟩
def RX3 : String := "PackedPages$Frames"
def TX3 : u_T := fun k => match k with
  | 0 => ("PackedPages$Frames", "size", "I", false)
  | 1 => ("PackedPages$Frames", "unpacked", "I", false)
  | _ => ("PackedPages$Frames", "pages", "[I", true)
def tyX3 : Nat → FieldType := fun k => match k with
  | 0 => .int
  | 1 => .int
  | _ => .array .int
abbrev wsX30 : List Cond := u_ws RX3 TX3 3
theorem nmX3 : ∀ a, a < 3 → ∀ b, b < 3 → a ≠ b → (TX3 a).2.1 ≠ (TX3 b).2.1 := by decide +kernel
theorem tyX3_ok : ∀ k, k < 3 → parseFieldDescriptor (TX3 k).2.2.1 = some (tyX3 k) := by decide +kernel
abbrev cX3_init : ByteArray := prog_5_method_1_code
def yX3_init : MethodName := ⟨RX3, "<init>", "()V"⟩
abbrev cX3_holds : ByteArray := prog_5_method_2_code
def yX3_holds : MethodName := ⟨RX3, "holds", "(I)Z"⟩
abbrev cX3_placeOf : ByteArray := prog_5_method_3_code
def yX3_placeOf : MethodName := ⟨RX3, "placeOf", "(I)I"⟩
abbrev cX3_hold : ByteArray := prog_5_method_4_code
def yX3_hold : MethodName := ⟨RX3, "hold", "(II)V"⟩
abbrev cX3_giveUp : ByteArray := prog_5_method_5_code
def yX3_giveUp : MethodName := ⟨RX3, "giveUp", "(I)V"⟩
abbrev cX3_shrinkTo : ByteArray := prog_5_method_6_code
def yX3_shrinkTo : MethodName := ⟨RX3, "shrinkTo", "(I)V"⟩
abbrev cX3_giveUpFree : ByteArray := prog_5_method_7_code
def yX3_giveUpFree : MethodName := ⟨RX3, "giveUpFree", "([I)V"⟩
abbrev cX3_giveUpAll : ByteArray := prog_5_method_8_code
def yX3_giveUpAll : MethodName := ⟨RX3, "giveUpAll", "()V"⟩
def RX4 : String := "PackedPages$Image"
def TX4 : u_T := fun k => match k with
  | _ => ("", "", "", false)
def tyX4 : Nat → FieldType := fun k => match k with
  | _ => .int
abbrev wsX40 : List Cond := u_ws RX4 TX4 0
theorem nmX4 : ∀ a, a < 0 → ∀ b, b < 0 → a ≠ b → (TX4 a).2.1 ≠ (TX4 b).2.1 := by decide +kernel
theorem tyX4_ok : ∀ k, k < 0 → parseFieldDescriptor (TX4 k).2.2.1 = some (tyX4 k) := by decide +kernel
abbrev cX4_inUse : ByteArray := prog_6_method_2_code
def yX4_inUse : MethodName := ⟨RX4, "inUse", "([I)I"⟩
abbrev cX4_pageAt : ByteArray := prog_6_method_3_code
def yX4_pageAt : MethodName := ⟨RX4, "pageAt", "([II)I"⟩
abbrev cX4_fenceAt : ByteArray := prog_6_method_4_code
def yX4_fenceAt : MethodName := ⟨RX4, "fenceAt", "([II)I"⟩
abbrev cX4_orderFor : ByteArray := prog_6_method_5_code
def yX4_orderFor : MethodName := ⟨RX4, "orderFor", "([II)I"⟩
abbrev cX4_isUsed : ByteArray := prog_6_method_6_code
def yX4_isUsed : MethodName := ⟨RX4, "isUsed", "([II)Z"⟩
abbrev cX4_lowestFree : ByteArray := prog_6_method_7_code
def yX4_lowestFree : MethodName := ⟨RX4, "lowestFree", "([I)I"⟩
abbrev cX4_packedSize : ByteArray := prog_6_method_8_code
def yX4_packedSize : MethodName := ⟨RX4, "packedSize", "([II)I"⟩
abbrev cX4_logStart : ByteArray := prog_6_method_9_code
def yX4_logStart : MethodName := ⟨RX4, "logStart", "([II)I"⟩
abbrev cX4_logEnd : ByteArray := prog_6_method_10_code
def yX4_logEnd : MethodName := ⟨RX4, "logEnd", "([II)I"⟩
abbrev cX4_placeBehind : ByteArray := prog_6_method_11_code
def yX4_placeBehind : MethodName := ⟨RX4, "placeBehind", "([III)I"⟩
abbrev cX4_entryCount : ByteArray := prog_6_method_12_code
def yX4_entryCount : MethodName := ⟨RX4, "entryCount", "([II)I"⟩
def RX5 : String := "PackedPages$Moment"
def TX5 : u_T := fun k => match k with
  | 0 => ("PackedPages$Moment", "act", "I", false)
  | 1 => ("PackedPages$Moment", "down", "Z", false)
  | 2 => ("PackedPages$Moment", "row", "[I", true)
  | _ => ("PackedPages$Moment", "learned", "[I", true)
def tyX5 : Nat → FieldType := fun k => match k with
  | 0 => .int
  | 1 => .boolean
  | 2 => .array .int
  | _ => .array .int
abbrev wsX50 : List Cond := u_ws RX5 TX5 4
theorem nmX5 : ∀ a, a < 4 → ∀ b, b < 4 → a ≠ b → (TX5 a).2.1 ≠ (TX5 b).2.1 := by decide +kernel
theorem tyX5_ok : ∀ k, k < 4 → parseFieldDescriptor (TX5 k).2.2.1 = some (tyX5 k) := by decide +kernel
abbrev cX5_init : ByteArray := prog_7_method_1_code
def yX5_init : MethodName := ⟨RX5, "<init>", "()V"⟩
def RX6 : String := "PackedPages$Packer"
def TX6 : u_T := fun k => match k with
  | 0 => ("PackedPages$Packer", "packed", "[I", true)
  | 1 => ("PackedPages$Packer", "plain", "[I", true)
  | 2 => ("PackedPages$Packer", "flawPlace", "I", false)
  | 3 => ("PackedPages$Packer", "bestFilter", "I", false)
  | 4 => ("PackedPages$Packer", "filtered", "[I", true)
  | 5 => ("PackedPages$Packer", "sameAhead", "[I", true)
  | 6 => ("PackedPages$Packer", "latestOf", "[I", true)
  | _ => ("PackedPages$Packer", "likeDistance", "I", false)
def tyX6 : Nat → FieldType := fun k => match k with
  | 0 => .array .int
  | 1 => .array .int
  | 2 => .int
  | 3 => .int
  | 4 => .array .int
  | 5 => .array .int
  | 6 => .array .int
  | _ => .int
abbrev wsX60 : List Cond := u_ws RX6 TX6 8
theorem nmX6 : ∀ a, a < 8 → ∀ b, b < 8 → a ≠ b → (TX6 a).2.1 ≠ (TX6 b).2.1 := by decide +kernel
theorem tyX6_ok : ∀ k, k < 8 → parseFieldDescriptor (TX6 k).2.2.1 = some (tyX6 k) := by decide +kernel
abbrev cX6_init : ByteArray := prog_8_method_1_code
def yX6_init : MethodName := ⟨RX6, "<init>", "()V"⟩
abbrev cX6_packBest : ByteArray := prog_8_method_2_code
def yX6_packBest : MethodName := ⟨RX6, "packBest", "([II)I"⟩
abbrev cX6_packRow : ByteArray := prog_8_method_3_code
def yX6_packRow : MethodName := ⟨RX6, "packRow", "([III)I"⟩
abbrev cX6_filterRow : ByteArray := prog_8_method_4_code
def yX6_filterRow : MethodName := ⟨RX6, "filterRow", "([III)V"⟩
abbrev cX6_linkSame : ByteArray := prog_8_method_5_code
def yX6_linkSame : MethodName := ⟨RX6, "linkSame", "(I)V"⟩
abbrev cX6_longestLike : ByteArray := prog_8_method_6_code
def yX6_longestLike : MethodName := ⟨RX6, "longestLike", "(II)I"⟩
abbrev cX6_tellSingles : ByteArray := prog_8_method_7_code
def yX6_tellSingles : MethodName := ⟨RX6, "tellSingles", "(III)I"⟩
abbrev cX6_unpackRow : ByteArray := prog_8_method_8_code
def yX6_unpackRow : MethodName := ⟨RX6, "unpackRow", "([IIII)I"⟩
abbrev cX6_unpackSingles : ByteArray := prog_8_method_9_code
def yX6_unpackSingles : MethodName := ⟨RX6, "unpackSingles", "([IIII)I"⟩
abbrev cX6_unpackLike : ByteArray := prog_8_method_10_code
def yX6_unpackLike : MethodName := ⟨RX6, "unpackLike", "([IIII)I"⟩
abbrev cX6_turnBack : ByteArray := prog_8_method_11_code
def yX6_turnBack : MethodName := ⟨RX6, "turnBack", "(II)V"⟩
def RX7 : String := "PackedPages$Past"
def TX7 : u_T := fun k => match k with
  | 0 => ("PackedPages$Past", "size", "I", false)
  | 1 => ("PackedPages$Past", "moments", "[LPackedPages$Moment;", true)
  | _ => ("PackedPages$Past", "nextSlot", "I", false)
def tyX7 : Nat → FieldType := fun k => match k with
  | 0 => .int
  | 1 => .array (.object "PackedPages$Moment")
  | _ => .int
abbrev wsX70 : List Cond := u_ws RX7 TX7 3
theorem nmX7 : ∀ a, a < 3 → ∀ b, b < 3 → a ≠ b → (TX7 a).2.1 ≠ (TX7 b).2.1 := by decide +kernel
theorem tyX7_ok : ∀ k, k < 3 → parseFieldDescriptor (TX7 k).2.2.1 = some (tyX7 k) := by decide +kernel
abbrev cX7_init : ByteArray := prog_9_method_1_code
def yX7_init : MethodName := ⟨RX7, "<init>", "()V"⟩
abbrev cX7_keep : ByteArray := prog_9_method_2_code
def yX7_keep : MethodName := ⟨RX7, "keep", "(ILPackedPages$Disk;[I)V"⟩
abbrev cX7_takeBack : ByteArray := prog_9_method_3_code
def yX7_takeBack : MethodName := ⟨RX7, "takeBack", "(LPackedPages$Disk;[I)I"⟩
def RX8 : String := "PackedPages$Records"
def TX8 : u_T := fun k => match k with
  | 0 => ("PackedPages$Records", "packer", "LPackedPages$Packer;", true)
  | 1 => ("PackedPages$Records", "laidOut", "[I", true)
  | 2 => ("PackedPages$Records", "sizes", "[I", true)
  | _ => ("PackedPages$Records", "bytes", "[I", true)
def tyX8 : Nat → FieldType := fun k => match k with
  | 0 => .object "PackedPages$Packer"
  | 1 => .array .int
  | 2 => .array .int
  | _ => .array .int
abbrev wsX80 : List Cond := u_ws RX8 TX8 4
theorem nmX8 : ∀ a, a < 4 → ∀ b, b < 4 → a ≠ b → (TX8 a).2.1 ≠ (TX8 b).2.1 := by decide +kernel
theorem tyX8_ok : ∀ k, k < 4 → parseFieldDescriptor (TX8 k).2.2.1 = some (tyX8 k) := by decide +kernel
abbrev cX8_init : ByteArray := prog_10_method_1_code
def yX8_init : MethodName := ⟨RX8, "<init>", "()V"⟩
abbrev cX8_loadOnly : ByteArray := prog_10_method_2_code
def yX8_loadOnly : MethodName := ⟨RX8, "loadOnly", "([III)V"⟩
abbrev cX8_loadAll : ByteArray := prog_10_method_3_code
def yX8_loadAll : MethodName := ⟨RX8, "loadAll", "([I)V"⟩
abbrev cX8_addPage : ByteArray := prog_10_method_4_code
def yX8_addPage : MethodName := ⟨RX8, "addPage", "([III)V"⟩
abbrev cX8_takePlain : ByteArray := prog_10_method_5_code
def yX8_takePlain : MethodName := ⟨RX8, "takePlain", "(I)V"⟩
abbrev cX8_refusalOf : ByteArray := prog_10_method_6_code
def yX8_refusalOf : MethodName := ⟨RX8, "refusalOf", "([II)I"⟩
abbrev cX8_holdsBytes : ByteArray := prog_10_method_7_code
def yX8_holdsBytes : MethodName := ⟨RX8, "holdsBytes", "(I[II)Z"⟩
abbrev cX8_apply : ByteArray := prog_10_method_8_code
def yX8_apply : MethodName := ⟨RX8, "apply", "([II)V"⟩
abbrev cX8_sizeOf : ByteArray := prog_10_method_9_code
def yX8_sizeOf : MethodName := ⟨RX8, "sizeOf", "(I)I"⟩
abbrev cX8_byteOf : ByteArray := prog_10_method_10_code
def yX8_byteOf : MethodName := ⟨RX8, "byteOf", "(II)I"⟩
abbrev cX8_countIn : ByteArray := prog_10_method_11_code
def yX8_countIn : MethodName := ⟨RX8, "countIn", "(II)I"⟩
abbrev cX8_plainSize : ByteArray := prog_10_method_12_code
def yX8_plainSize : MethodName := ⟨RX8, "plainSize", "(II)I"⟩
abbrev cX8_lowestIn : ByteArray := prog_10_method_13_code
def yX8_lowestIn : MethodName := ⟨RX8, "lowestIn", "(II)I"⟩
abbrev cX8_cutOf : ByteArray := prog_10_method_14_code
def yX8_cutOf : MethodName := ⟨RX8, "cutOf", "(II)I"⟩
abbrev cX8_layOut : ByteArray := prog_10_method_15_code
def yX8_layOut : MethodName := ⟨RX8, "layOut", "(II)I"⟩
def RX9 : String := "PackedPages"
def TX9 : u_T := fun k => match k with
  | 0 => ("PackedPages", "settings", "[I", true)
  | 1 => ("PackedPages", "learned", "[I", true)
  | 2 => ("PackedPages", "tapeBytes", "[I", true)
  | 3 => ("PackedPages", "tapeSize", "I", false)
  | 4 => ("PackedPages", "single", "[I", true)
  | 5 => ("PackedPages", "refusals", "[I", true)
  | 6 => ("PackedPages", "latestStatus", "I", false)
  | 7 => ("PackedPages", "latestFlaw", "I", false)
  | 8 => ("PackedPages", "rehearsedFlaw", "I", false)
  | 9 => ("PackedPages", "disk", "LPackedPages$Disk;", true)
  | 10 => ("PackedPages", "draft", "LPackedPages$Draft;", true)
  | 11 => ("PackedPages", "paper", "LPackedPages$Records;", true)
  | 12 => ("PackedPages", "frames", "LPackedPages$Frames;", true)
  | _ => ("PackedPages", "past", "LPackedPages$Past;", true)
def tyX9 : Nat → FieldType := fun k => match k with
  | 0 => .array .int
  | 1 => .array .int
  | 2 => .array .int
  | 3 => .int
  | 4 => .array .int
  | 5 => .array .int
  | 6 => .int
  | 7 => .int
  | 8 => .int
  | 9 => .object "PackedPages$Disk"
  | 10 => .object "PackedPages$Draft"
  | 11 => .object "PackedPages$Records"
  | 12 => .object "PackedPages$Frames"
  | _ => .object "PackedPages$Past"
abbrev wsX90 : List Cond := u_ws RX9 TX9 14
theorem nmX9 : ∀ a, a < 14 → ∀ b, b < 14 → a ≠ b → (TX9 a).2.1 ≠ (TX9 b).2.1 := by decide +kernel
theorem tyX9_ok : ∀ k, k < 14 → parseFieldDescriptor (TX9 k).2.2.1 = some (tyX9 k) := by decide +kernel
abbrev cX9_init : ByteArray := prog_1_method_1_code
def yX9_init : MethodName := ⟨RX9, "<init>", "()V"⟩
abbrev cX9_terms : ByteArray := prog_1_method_2_code
def yX9_terms : MethodName := ⟨RX9, "terms", "(II)I"⟩
abbrev cX9_feed : ByteArray := prog_1_method_3_code
def yX9_feed : MethodName := ⟨RX9, "feed", "(IIIII)I"⟩
abbrev cX9_end : ByteArray := prog_1_method_4_code
def yX9_end : MethodName := ⟨RX9, "end", "(I)I"⟩
abbrev cX9_tape : ByteArray := prog_1_method_5_code
def yX9_tape : MethodName := ⟨RX9, "tape", "(I)I"⟩
abbrev cX9_pack : ByteArray := prog_1_method_6_code
def yX9_pack : MethodName := ⟨RX9, "pack", "(I)I"⟩
abbrev cX9_unpack : ByteArray := prog_1_method_7_code
def yX9_unpack : MethodName := ⟨RX9, "unpack", "(I)I"⟩
abbrev cX9_flaw : ByteArray := prog_1_method_8_code
def yX9_flaw : MethodName := ⟨RX9, "flaw", "()I"⟩
abbrev cX9_put : ByteArray := prog_1_method_9_code
def yX9_put : MethodName := ⟨RX9, "put", "(I)I"⟩
abbrev cX9_grow : ByteArray := prog_1_method_10_code
def yX9_grow : MethodName := ⟨RX9, "grow", "(I)I"⟩
abbrev cX9_alter : ByteArray := prog_1_method_11_code
def yX9_alter : MethodName := ⟨RX9, "alter", "(III)I"⟩
abbrev cX9_erase : ByteArray := prog_1_method_12_code
def yX9_erase : MethodName := ⟨RX9, "erase", "(I)I"⟩
abbrev cX9_group : ByteArray := prog_1_method_13_code
def yX9_group : MethodName := ⟨RX9, "group", "()I"⟩
abbrev cX9_compact : ByteArray := prog_1_method_14_code
def yX9_compact : MethodName := ⟨RX9, "compact", "()I"⟩
abbrev cX9_fuse : ByteArray := prog_1_method_15_code
def yX9_fuse : MethodName := ⟨RX9, "fuse", "(I)I"⟩
abbrev cX9_recover : ByteArray := prog_1_method_16_code
def yX9_recover : MethodName := ⟨RX9, "recover", "()I"⟩
abbrev cX9_written : ByteArray := prog_1_method_17_code
def yX9_written : MethodName := ⟨RX9, "written", "()I"⟩
abbrev cX9_fetch : ByteArray := prog_1_method_18_code
def yX9_fetch : MethodName := ⟨RX9, "fetch", "(I)I"⟩
abbrev cX9_undo : ByteArray := prog_1_method_19_code
def yX9_undo : MethodName := ⟨RX9, "undo", "()I"⟩
abbrev cX9_value : ByteArray := prog_1_method_20_code
def yX9_value : MethodName := ⟨RX9, "value", "(II)I"⟩
abbrev cX9_next : ByteArray := prog_1_method_21_code
def yX9_next : MethodName := ⟨RX9, "next", "(I)I"⟩
abbrev cX9_page : ByteArray := prog_1_method_22_code
def yX9_page : MethodName := ⟨RX9, "page", "(II)I"⟩
abbrev cX9_packing : ByteArray := prog_1_method_23_code
def yX9_packing : MethodName := ⟨RX9, "packing", "(II)I"⟩
abbrev cX9_entry : ByteArray := prog_1_method_24_code
def yX9_entry : MethodName := ⟨RX9, "entry", "(III)I"⟩
abbrev cX9_behind : ByteArray := prog_1_method_25_code
def yX9_behind : MethodName := ⟨RX9, "behind", "(III)I"⟩
abbrev cX9_would : ByteArray := prog_1_method_26_code
def yX9_would : MethodName := ⟨RX9, "would", "(I)I"⟩
abbrev cX9_block : ByteArray := prog_1_method_27_code
def yX9_block : MethodName := ⟨RX9, "block", "(II)I"⟩
abbrev cX9_directory : ByteArray := prog_1_method_28_code
def yX9_directory : MethodName := ⟨RX9, "directory", "(I)I"⟩
abbrev cX9_journal : ByteArray := prog_1_method_29_code
def yX9_journal : MethodName := ⟨RX9, "journal", "(I)I"⟩
abbrev cX9_count : ByteArray := prog_1_method_30_code
def yX9_count : MethodName := ⟨RX9, "count", "(I)I"⟩
abbrev cX9_status : ByteArray := prog_1_method_31_code
def yX9_status : MethodName := ⟨RX9, "status", "()I"⟩
abbrev cX9_isByte : ByteArray := prog_1_method_32_code
def yX9_isByte : MethodName := ⟨RX9, "isByte", "(I)Z"⟩
abbrev cX9_isOrder : ByteArray := prog_1_method_33_code
def yX9_isOrder : MethodName := ⟨RX9, "isOrder", "(I)Z"⟩
abbrev cX9_pageFor : ByteArray := prog_1_method_34_code
def yX9_pageFor : MethodName := ⟨RX9, "pageFor", "(I)I"⟩
abbrev cX9_accept : ByteArray := prog_1_method_35_code
def yX9_accept : MethodName := ⟨RX9, "accept", "(I)I"⟩
abbrev cX9_refuse : ByteArray := prog_1_method_36_code
def yX9_refuse : MethodName := ⟨RX9, "refuse", "(I)I"⟩
abbrev cX9_tellCutOff : ByteArray := prog_1_method_37_code
def yX9_tellCutOff : MethodName := ⟨RX9, "tellCutOff", "()I"⟩
abbrev cX9_addFour : ByteArray := prog_1_method_38_code
def yX9_addFour : MethodName := ⟨RX9, "addFour", "(I)V"⟩
abbrev cX9_takeTape : ByteArray := prog_1_method_39_code
def yX9_takeTape : MethodName := ⟨RX9, "takeTape", "([II)V"⟩
abbrev cX9_layFromTape : ByteArray := prog_1_method_40_code
def yX9_layFromTape : MethodName := ⟨RX9, "layFromTape", "(II)V"⟩
abbrev cX9_editAlone : ByteArray := prog_1_method_41_code
def yX9_editAlone : MethodName := ⟨RX9, "editAlone", "(II)I"⟩
abbrev cX9_carryOut : ByteArray := prog_1_method_42_code
def yX9_carryOut : MethodName := ⟨RX9, "carryOut", "(II)I"⟩
abbrev cX9_keepAndLearn : ByteArray := prog_1_method_43_code
def yX9_keepAndLearn : MethodName := ⟨RX9, "keepAndLearn", "(I)V"⟩
abbrev cX9_tellOutcome : ByteArray := prog_1_method_44_code
def yX9_tellOutcome : MethodName := ⟨RX9, "tellOutcome", "(II)I"⟩
abbrev cX9_rehearse : ByteArray := prog_1_method_45_code
def yX9_rehearse : MethodName := ⟨RX9, "rehearse", "()I"⟩
abbrev cX9_firstUnreadable : ByteArray := prog_1_method_46_code
def yX9_firstUnreadable : MethodName := ⟨RX9, "firstUnreadable", "()I"⟩
abbrev cX9_countOnDisk : ByteArray := prog_1_method_47_code
def yX9_countOnDisk : MethodName := ⟨RX9, "countOnDisk", "(I)I"⟩
def RX10 : String := "PackedPagesModel"
def TX10 : u_T := fun k => match k with
  | 0 => ("PackedPagesModel", "thrown", "I", false)
  | 1 => ("PackedPagesModel", "status", "I", false)
  | 2 => ("PackedPagesModel", "refusals", "[I", true)
  | 3 => ("PackedPagesModel", "terms", "[I", true)
  | 4 => ("PackedPagesModel", "least", "[I", true)
  | 5 => ("PackedPagesModel", "most", "[I", true)
  | 6 => ("PackedPagesModel", "now", "[I", true)
  | 7 => ("PackedPagesModel", "draft", "[I", true)
  | 8 => ("PackedPagesModel", "tape", "[I", true)
  | 9 => ("PackedPagesModel", "taped", "I", false)
  | 10 => ("PackedPagesModel", "flawAt", "I", false)
  | 11 => ("PackedPagesModel", "fuse", "I", false)
  | 12 => ("PackedPagesModel", "writtenMany", "I", false)
  | 13 => ("PackedPagesModel", "isOut", "Z", false)
  | 14 => ("PackedPagesModel", "plain", "[I", true)
  | 15 => ("PackedPagesModel", "plainMany", "I", false)
  | 16 => ("PackedPagesModel", "filtered", "[I", true)
  | 17 => ("PackedPagesModel", "packed", "[I", true)
  | 18 => ("PackedPagesModel", "packedMany", "I", false)
  | 19 => ("PackedPagesModel", "flaw", "I", false)
  | 20 => ("PackedPagesModel", "lengths", "[I", true)
  | 21 => ("PackedPagesModel", "bytes", "[I", true)
  | 22 => ("PackedPagesModel", "partLow", "[I", true)
  | 23 => ("PackedPagesModel", "partHigh", "[I", true)
  | 24 => ("PackedPagesModel", "partMany", "I", false)
  | 25 => ("PackedPagesModel", "waitLow", "[I", true)
  | 26 => ("PackedPagesModel", "waitHigh", "[I", true)
  | 27 => ("PackedPagesModel", "waitMany", "I", false)
  | 28 => ("PackedPagesModel", "loggedAt", "I", false)
  | 29 => ("PackedPagesModel", "loggedMany", "I", false)
  | 30 => ("PackedPagesModel", "anew", "I", false)
  | 31 => ("PackedPagesModel", "undone", "[I", true)
  | 32 => ("PackedPagesModel", "undoneWhat", "[I", true)
  | 33 => ("PackedPagesModel", "undoMany", "I", false)
  | 34 => ("PackedPagesModel", "newest", "I", false)
  | 35 => ("PackedPagesModel", "held", "[I", true)
  | 36 => ("PackedPagesModel", "heldMany", "I", false)
  | 37 => ("PackedPagesModel", "unpackedMany", "I", false)
  | 38 => ("PackedPagesModel", "entry", "[I", true)
  | _ => ("PackedPagesModel", "failedAt", "I", false)
def tyX10 : Nat → FieldType := fun k => match k with
  | 0 => .int
  | 1 => .int
  | 2 => .array .int
  | 3 => .array .int
  | 4 => .array .int
  | 5 => .array .int
  | 6 => .array .int
  | 7 => .array .int
  | 8 => .array .int
  | 9 => .int
  | 10 => .int
  | 11 => .int
  | 12 => .int
  | 13 => .boolean
  | 14 => .array .int
  | 15 => .int
  | 16 => .array .int
  | 17 => .array .int
  | 18 => .int
  | 19 => .int
  | 20 => .array .int
  | 21 => .array .int
  | 22 => .array .int
  | 23 => .array .int
  | 24 => .int
  | 25 => .array .int
  | 26 => .array .int
  | 27 => .int
  | 28 => .int
  | 29 => .int
  | 30 => .int
  | 31 => .array .int
  | 32 => .array .int
  | 33 => .int
  | 34 => .int
  | 35 => .array .int
  | 36 => .int
  | 37 => .int
  | 38 => .array .int
  | _ => .int
abbrev wsX100 : List Cond := u_ws RX10 TX10 40
theorem nmX10 : ∀ a, a < 40 → ∀ b, b < 40 → a ≠ b → (TX10 a).2.1 ≠ (TX10 b).2.1 := by decide +kernel
theorem tyX10_ok : ∀ k, k < 40 → parseFieldDescriptor (TX10 k).2.2.1 = some (tyX10 k) := by decide +kernel
abbrev cX10_init : ByteArray := prog_12_method_1_code
def yX10_init : MethodName := ⟨RX10, "<init>", "()V"⟩
abbrev cX10_refuses : ByteArray := prog_12_method_3_code
def yX10_refuses : MethodName := ⟨RX10, "refuses", "(I)I"⟩
abbrev cX10_tells : ByteArray := prog_12_method_4_code
def yX10_tells : MethodName := ⟨RX10, "tells", "(I)I"⟩
abbrev cX10_isIn : ByteArray := prog_12_method_5_code
def yX10_isIn : MethodName := ⟨RX10, "isIn", "(III)Z"⟩
abbrev cX10_isDown : ByteArray := prog_12_method_6_code
def yX10_isDown : MethodName := ⟨RX10, "isDown", "()Z"⟩
abbrev cX10_terms : ByteArray := prog_12_method_7_code
def yX10_terms : MethodName := ⟨RX10, "terms", "(II)I"⟩
abbrev cX10_types : ByteArray := prog_12_method_8_code
def yX10_types : MethodName := ⟨RX10, "types", "(I)V"⟩
abbrev cX10_feed : ByteArray := prog_12_method_9_code
def yX10_feed : MethodName := ⟨RX10, "feed", "(IIIII)I"⟩
abbrev cX10_end : ByteArray := prog_12_method_10_code
def yX10_end : MethodName := ⟨RX10, "end", "(I)I"⟩
abbrev cX10_tape : ByteArray := prog_12_method_11_code
def yX10_tape : MethodName := ⟨RX10, "tape", "(I)I"⟩
abbrev cX10_filteredAt : ByteArray := prog_12_method_12_code
def yX10_filteredAt : MethodName := ⟨RX10, "filteredAt", "(II)I"⟩
abbrev cX10_likeFrom : ByteArray := prog_12_method_13_code
def yX10_likeFrom : MethodName := ⟨RX10, "likeFrom", "(II)I"⟩
abbrev cX10_emits : ByteArray := prog_12_method_14_code
def yX10_emits : MethodName := ⟨RX10, "emits", "(I)V"⟩
abbrev cX10_emitsSingle : ByteArray := prog_12_method_15_code
def yX10_emitsSingle : MethodName := ⟨RX10, "emitsSingle", "(II)V"⟩
abbrev cX10_packs : ByteArray := prog_12_method_16_code
def yX10_packs : MethodName := ⟨RX10, "packs", "(I)I"⟩
abbrev cX10_shapeOf : ByteArray := prog_12_method_17_code
def yX10_shapeOf : MethodName := ⟨RX10, "shapeOf", "()I"⟩
abbrev cX10_unpacks : ByteArray := prog_12_method_18_code
def yX10_unpacks : MethodName := ⟨RX10, "unpacks", "([IIII)Z"⟩
abbrev cX10_comesOut : ByteArray := prog_12_method_19_code
def yX10_comesOut : MethodName := ⟨RX10, "comesOut", "(I)V"⟩
abbrev cX10_flawed : ByteArray := prog_12_method_20_code
def yX10_flawed : MethodName := ⟨RX10, "flawed", "(I)Z"⟩
abbrev cX10_pack : ByteArray := prog_12_method_21_code
def yX10_pack : MethodName := ⟨RX10, "pack", "(I)I"⟩
abbrev cX10_unpack : ByteArray := prog_12_method_22_code
def yX10_unpack : MethodName := ⟨RX10, "unpack", "(I)I"⟩
abbrev cX10_flaw : ByteArray := prog_12_method_23_code
def yX10_flaw : MethodName := ⟨RX10, "flaw", "()I"⟩
abbrev cX10_clears : ByteArray := prog_12_method_24_code
def yX10_clears : MethodName := ⟨RX10, "clears", "()V"⟩
abbrev cX10_recordMany : ByteArray := prog_12_method_25_code
def yX10_recordMany : MethodName := ⟨RX10, "recordMany", "()I"⟩
abbrev cX10_plainOf : ByteArray := prog_12_method_26_code
def yX10_plainOf : MethodName := ⟨RX10, "plainOf", "(II)I"⟩
abbrev cX10_laysPlain : ByteArray := prog_12_method_27_code
def yX10_laysPlain : MethodName := ⟨RX10, "laysPlain", "(II)V"⟩
abbrev cX10_kindOf : ByteArray := prog_12_method_28_code
def yX10_kindOf : MethodName := ⟨RX10, "kindOf", "(I)I"⟩
abbrev cX10_lengthOf : ByteArray := prog_12_method_29_code
def yX10_lengthOf : MethodName := ⟨RX10, "lengthOf", "(I)I"⟩
abbrev cX10_isEntry : ByteArray := prog_12_method_30_code
def yX10_isEntry : MethodName := ⟨RX10, "isEntry", "(I)Z"⟩
abbrev cX10_does : ByteArray := prog_12_method_31_code
def yX10_does : MethodName := ⟨RX10, "does", "([II)V"⟩
abbrev cX10_cant : ByteArray := prog_12_method_32_code
def yX10_cant : MethodName := ⟨RX10, "cant", "([II)I"⟩
abbrev cX10_pagesOf : ByteArray := prog_12_method_33_code
def yX10_pagesOf : MethodName := ⟨RX10, "pagesOf", "([I)I"⟩
abbrev cX10_numberOf : ByteArray := prog_12_method_34_code
def yX10_numberOf : MethodName := ⟨RX10, "numberOf", "([II)I"⟩
abbrev cX10_fenceOf : ByteArray := prog_12_method_35_code
def yX10_fenceOf : MethodName := ⟨RX10, "fenceOf", "([II)I"⟩
abbrev cX10_placeFor : ByteArray := prog_12_method_36_code
def yX10_placeFor : MethodName := ⟨RX10, "placeFor", "([II)I"⟩
abbrev cX10_laysPacked : ByteArray := prog_12_method_37_code
def yX10_laysPacked : MethodName := ⟨RX10, "laysPacked", "([II)V"⟩
abbrev cX10_entryAt : ByteArray := prog_12_method_38_code
def yX10_entryAt : MethodName := ⟨RX10, "entryAt", "([III)I"⟩
abbrev cX10_endOf : ByteArray := prog_12_method_39_code
def yX10_endOf : MethodName := ⟨RX10, "endOf", "([II)I"⟩
abbrev cX10_entriesOf : ByteArray := prog_12_method_40_code
def yX10_entriesOf : MethodName := ⟨RX10, "entriesOf", "([II)I"⟩
abbrev cX10_lays : ByteArray := prog_12_method_41_code
def yX10_lays : MethodName := ⟨RX10, "lays", "([III)V"⟩
abbrev cX10_laysAlone : ByteArray := prog_12_method_42_code
def yX10_laysAlone : MethodName := ⟨RX10, "laysAlone", "([II)V"⟩
abbrev cX10_laysAll : ByteArray := prog_12_method_43_code
def yX10_laysAll : MethodName := ⟨RX10, "laysAll", "([I)V"⟩
abbrev cX10_full : ByteArray := prog_12_method_44_code
def yX10_full : MethodName := ⟨RX10, "full", "()I"⟩
abbrev cX10_keysFrom : ByteArray := prog_12_method_45_code
def yX10_keysFrom : MethodName := ⟨RX10, "keysFrom", "(II)I"⟩
abbrev cX10_fits : ByteArray := prog_12_method_46_code
def yX10_fits : MethodName := ⟨RX10, "fits", "(II)Z"⟩
abbrev cX10_learns : ByteArray := prog_12_method_47_code
def yX10_learns : MethodName := ⟨RX10, "learns", "(Z)V"⟩
abbrev cX10_waits : ByteArray := prog_12_method_48_code
def yX10_waits : MethodName := ⟨RX10, "waits", "(II)V"⟩
abbrev cX10_isPart : ByteArray := prog_12_method_49_code
def yX10_isPart : MethodName := ⟨RX10, "isPart", "(II)Z"⟩
abbrev cX10_middleOf : ByteArray := prog_12_method_50_code
def yX10_middleOf : MethodName := ⟨RX10, "middleOf", "(II)I"⟩
abbrev cX10_spreads : ByteArray := prog_12_method_51_code
def yX10_spreads : MethodName := ⟨RX10, "spreads", "()V"⟩
abbrev cX10_lowestKey : ByteArray := prog_12_method_52_code
def yX10_lowestKey : MethodName := ⟨RX10, "lowestKey", "(II)I"⟩
abbrev cX10_shapes : ByteArray := prog_12_method_53_code
def yX10_shapes : MethodName := ⟨RX10, "shapes", "(III)V"⟩
abbrev cX10_lowestFree : ByteArray := prog_12_method_54_code
def yX10_lowestFree : MethodName := ⟨RX10, "lowestFree", "()I"⟩
abbrev cX10_goes : ByteArray := prog_12_method_55_code
def yX10_goes : MethodName := ⟨RX10, "goes", "(I)V"⟩
abbrev cX10_comes : ByteArray := prog_12_method_56_code
def yX10_comes : MethodName := ⟨RX10, "comes", "(III)V"⟩
abbrev cX10_drafts : ByteArray := prog_12_method_57_code
def yX10_drafts : MethodName := ⟨RX10, "drafts", "()V"⟩
abbrev cX10_edits : ByteArray := prog_12_method_58_code
def yX10_edits : MethodName := ⟨RX10, "edits", "([II)I"⟩
abbrev cX10_spreadsPage : ByteArray := prog_12_method_59_code
def yX10_spreadsPage : MethodName := ⟨RX10, "spreadsPage", "(I)I"⟩
abbrev cX10_writes : ByteArray := prog_12_method_60_code
def yX10_writes : MethodName := ⟨RX10, "writes", "(II)V"⟩
abbrev cX10_beginsWriting : ByteArray := prog_12_method_61_code
def yX10_beginsWriting : MethodName := ⟨RX10, "beginsWriting", "()V"⟩
abbrev cX10_ends : ByteArray := prog_12_method_62_code
def yX10_ends : MethodName := ⟨RX10, "ends", "(I)I"⟩
abbrev cX10_directoryMany : ByteArray := prog_12_method_63_code
def yX10_directoryMany : MethodName := ⟨RX10, "directoryMany", "([I)I"⟩
abbrev cX10_throughJournal : ByteArray := prog_12_method_64_code
def yX10_throughJournal : MethodName := ⟨RX10, "throughJournal", "()V"⟩
abbrev cX10_keeps : ByteArray := prog_12_method_65_code
def yX10_keeps : MethodName := ⟨RX10, "keeps", "(I)V"⟩
abbrev cX10_undo : ByteArray := prog_12_method_66_code
def yX10_undo : MethodName := ⟨RX10, "undo", "()I"⟩
abbrev cX10_lets : ByteArray := prog_12_method_67_code
def yX10_lets : MethodName := ⟨RX10, "lets", "(I)V"⟩
abbrev cX10_placeHeld : ByteArray := prog_12_method_68_code
def yX10_placeHeld : MethodName := ⟨RX10, "placeHeld", "(I)I"⟩
abbrev cX10_uses : ByteArray := prog_12_method_69_code
def yX10_uses : MethodName := ⟨RX10, "uses", "(I)V"⟩
abbrev cX10_isInUse : ByteArray := prog_12_method_70_code
def yX10_isInUse : MethodName := ⟨RX10, "isInUse", "(I)Z"⟩
abbrev cX10_letsFree : ByteArray := prog_12_method_71_code
def yX10_letsFree : MethodName := ⟨RX10, "letsFree", "()V"⟩
abbrev cX10_alone : ByteArray := prog_12_method_72_code
def yX10_alone : MethodName := ⟨RX10, "alone", "(I)I"⟩
abbrev cX10_byTape : ByteArray := prog_12_method_73_code
def yX10_byTape : MethodName := ⟨RX10, "byTape", "(III)I"⟩
abbrev cX10_isKey : ByteArray := prog_12_method_74_code
def yX10_isKey : MethodName := ⟨RX10, "isKey", "(I)Z"⟩
abbrev cX10_put : ByteArray := prog_12_method_75_code
def yX10_put : MethodName := ⟨RX10, "put", "(I)I"⟩
abbrev cX10_grow : ByteArray := prog_12_method_76_code
def yX10_grow : MethodName := ⟨RX10, "grow", "(I)I"⟩
abbrev cX10_alter : ByteArray := prog_12_method_77_code
def yX10_alter : MethodName := ⟨RX10, "alter", "(III)I"⟩
abbrev cX10_erase : ByteArray := prog_12_method_78_code
def yX10_erase : MethodName := ⟨RX10, "erase", "(I)I"⟩
abbrev cX10_drafted : ByteArray := prog_12_method_79_code
def yX10_drafted : MethodName := ⟨RX10, "drafted", "(I)I"⟩
abbrev cX10_group : ByteArray := prog_12_method_80_code
def yX10_group : MethodName := ⟨RX10, "group", "()I"⟩
abbrev cX10_would : ByteArray := prog_12_method_81_code
def yX10_would : MethodName := ⟨RX10, "would", "(I)I"⟩
abbrev cX10_lastTogether : ByteArray := prog_12_method_82_code
def yX10_lastTogether : MethodName := ⟨RX10, "lastTogether", "(I)I"⟩
abbrev cX10_compact : ByteArray := prog_12_method_83_code
def yX10_compact : MethodName := ⟨RX10, "compact", "()I"⟩
abbrev cX10_fuse : ByteArray := prog_12_method_84_code
def yX10_fuse : MethodName := ⟨RX10, "fuse", "(I)I"⟩
abbrev cX10_comesBack : ByteArray := prog_12_method_85_code
def yX10_comesBack : MethodName := ⟨RX10, "comesBack", "()V"⟩
abbrev cX10_wipes : ByteArray := prog_12_method_86_code
def yX10_wipes : MethodName := ⟨RX10, "wipes", "(I)V"⟩
abbrev cX10_recover : ByteArray := prog_12_method_87_code
def yX10_recover : MethodName := ⟨RX10, "recover", "()I"⟩
abbrev cX10_written : ByteArray := prog_12_method_88_code
def yX10_written : MethodName := ⟨RX10, "written", "()I"⟩
abbrev cX10_fetch : ByteArray := prog_12_method_89_code
def yX10_fetch : MethodName := ⟨RX10, "fetch", "(I)I"⟩
abbrev cX10_value : ByteArray := prog_12_method_90_code
def yX10_value : MethodName := ⟨RX10, "value", "(II)I"⟩
abbrev cX10_next : ByteArray := prog_12_method_91_code
def yX10_next : MethodName := ⟨RX10, "next", "(I)I"⟩
abbrev cX10_isPlace : ByteArray := prog_12_method_92_code
def yX10_isPlace : MethodName := ⟨RX10, "isPlace", "(I)Z"⟩
abbrev cX10_page : ByteArray := prog_12_method_93_code
def yX10_page : MethodName := ⟨RX10, "page", "(II)I"⟩
abbrev cX10_packing : ByteArray := prog_12_method_94_code
def yX10_packing : MethodName := ⟨RX10, "packing", "(II)I"⟩
abbrev cX10_entry : ByteArray := prog_12_method_95_code
def yX10_entry : MethodName := ⟨RX10, "entry", "(III)I"⟩
abbrev cX10_behind : ByteArray := prog_12_method_96_code
def yX10_behind : MethodName := ⟨RX10, "behind", "(III)I"⟩
abbrev cX10_block : ByteArray := prog_12_method_97_code
def yX10_block : MethodName := ⟨RX10, "block", "(II)I"⟩
abbrev cX10_directory : ByteArray := prog_12_method_98_code
def yX10_directory : MethodName := ⟨RX10, "directory", "(I)I"⟩
abbrev cX10_journal : ByteArray := prog_12_method_99_code
def yX10_journal : MethodName := ⟨RX10, "journal", "(I)I"⟩
abbrev cX10_ofAll : ByteArray := prog_12_method_100_code
def yX10_ofAll : MethodName := ⟨RX10, "ofAll", "(I)I"⟩
abbrev cX10_count : ByteArray := prog_12_method_101_code
def yX10_count : MethodName := ⟨RX10, "count", "(I)I"⟩
abbrev cX10_status : ByteArray := prog_12_method_102_code
def yX10_status : MethodName := ⟨RX10, "status", "()I"⟩
def RJ9 : String := "java/lang/Math"
def TJ9 : u_T := fun k => match k with
  | _ => ("", "", "", false)
def tyJ9 : Nat → FieldType := fun k => match k with
  | _ => .int
abbrev wsJ90 : List Cond := u_ws RJ9 TJ9 0
theorem nmJ9 : ∀ a, a < 0 → ∀ b, b < 0 → a ≠ b → (TJ9 a).2.1 ≠ (TJ9 b).2.1 := by decide +kernel
theorem tyJ9_ok : ∀ k, k < 0 → parseFieldDescriptor (TJ9 k).2.2.1 = some (tyJ9 k) := by decide +kernel
abbrev cJ9_max_7cf53 : ByteArray := prog_13_method_65_code
def yJ9_max_7cf53 : MethodName := ⟨RJ9, "max", "(II)I"⟩
abbrev cJ9_min_7cf53 : ByteArray := prog_13_method_69_code
def yJ9_min_7cf53 : MethodName := ⟨RJ9, "min", "(II)I"⟩
def RJ10 : String := "java/lang/System"
def TJ10 : u_T := fun k => match k with
  | _ => ("", "", "", false)
def tyJ10 : Nat → FieldType := fun k => match k with
  | _ => .int
abbrev wsJ100 : List Cond := u_ws RJ10 TJ10 0
theorem nmJ10 : ∀ a, a < 0 → ∀ b, b < 0 → a ≠ b → (TJ10 a).2.1 ≠ (TJ10 b).2.1 := by decide +kernel
theorem tyJ10_ok : ∀ k, k < 0 → parseFieldDescriptor (TJ10 k).2.2.1 = some (tyJ10 k) := by decide +kernel
def RJ7 : String := "java/util/Arrays"
def TJ7 : u_T := fun k => match k with
  | _ => ("", "", "", false)
def tyJ7 : Nat → FieldType := fun k => match k with
  | _ => .int
abbrev wsJ70 : List Cond := u_ws RJ7 TJ7 0
theorem nmJ7 : ∀ a, a < 0 → ∀ b, b < 0 → a ≠ b → (TJ7 a).2.1 ≠ (TJ7 b).2.1 := by decide +kernel
theorem tyJ7_ok : ∀ k, k < 0 → parseFieldDescriptor (TJ7 k).2.2.1 = some (tyJ7 k) := by decide +kernel
abbrev cJ7_rangeCheck_23922 : ByteArray := prog_15_method_30_code
def yJ7_rangeCheck_23922 : MethodName := ⟨RJ7, "rangeCheck", "(III)V"⟩
abbrev cJ7_fill_53178 : ByteArray := prog_15_method_103_code
def yJ7_fill_53178 : MethodName := ⟨RJ7, "fill", "([II)V"⟩
abbrev cJ7_fill_fda19 : ByteArray := prog_15_method_104_code
def yJ7_fill_fda19 : MethodName := ⟨RJ7, "fill", "([IIII)V"⟩
def RL : String := "PackedPagesLaw"
abbrev cL_law : ByteArray := code
def yL_law : MethodName := ⟨RL, "law", "([I)Z"⟩
abbrev vwCl : List vw_C := [(RX0, TX0, 5), (RX1, TX1, 8), (RX3, TX3, 3), (RX5, TX5, 4), (RX6, TX6, 8), (RX7, TX7, 3), (RX8, TX8, 4), (RX9, TX9, 14), (RX10, TX10, 40)]
abbrev lw_ws : List Cond := lw_tbl.filter goodWord
theorem ws_at {w : Cond} (i : Nat) (h : lw_tbl[i]? = some w) (hg : goodWord w = true) : w ∈ lw_ws := List.mem_filter.mpr ⟨List.mem_of_getElem? h, hg⟩
set_option maxRecDepth 20000 in
theorem inT0 : ∀ w ∈ wsX00, w ∈ lw_ws := by decide +kernel
set_option maxRecDepth 20000 in
theorem inT1 : ∀ w ∈ wsX10, w ∈ lw_ws := by decide +kernel
set_option maxRecDepth 20000 in
theorem inT3 : ∀ w ∈ wsX30, w ∈ lw_ws := by decide +kernel
set_option maxRecDepth 20000 in
theorem inT5 : ∀ w ∈ wsX50, w ∈ lw_ws := by decide +kernel
set_option maxRecDepth 20000 in
theorem inT6 : ∀ w ∈ wsX60, w ∈ lw_ws := by decide +kernel
set_option maxRecDepth 20000 in
theorem inT7 : ∀ w ∈ wsX70, w ∈ lw_ws := by decide +kernel
set_option maxRecDepth 20000 in
theorem inT8 : ∀ w ∈ wsX80, w ∈ lw_ws := by decide +kernel
set_option maxRecDepth 20000 in
theorem inT9 : ∀ w ∈ wsX90, w ∈ lw_ws := by decide +kernel
set_option maxRecDepth 20000 in
theorem inT10 : ∀ w ∈ wsX100, w ∈ lw_ws := by decide +kernel
end
section
-- the memory as mathematics: scalars by id, int arrays by id; id = 64 * object + field; an object's own address stands at 64 * object + 63
abbrev zMem : Type := (Nat → Int) × (Nat → Int → Int)
abbrev zV : Type := Int ⊕ Nat
-- the frame of addresses: class numbers and slots, the class of int[], of Moment[], address of each id, where the law's own cells begin
abbrev zG : Type := va_G × ClassId × ClassId × (Nat → Nat) × Nat
abbrev zad (G : zG) (k : Nat) : Nat := G.2.2.2.1 k
abbrev zbs (G : zG) : Nat := G.2.2.2.2
abbrev zA (G : zG) : Nat → Prop := fun q => zbs G ≤ q
abbrev ztys (G : zG) : List (ClassId × FieldType) := [(G.2.1, .int), (G.2.2.1, .object "PackedPages$Moment")]
def inR (x : Int) : Prop := -2147483648 ≤ x ∧ x ≤ 2147483647
def zok : zV → Prop
  | .inl x => inR x
  | .inr _ => True
def zmv (G : zG) : zV → Value
  | .inl x => .int (Int32.ofInt x)
  | .inr a => .ref (zad G a)
def setS (M : zMem) (k : Nat) (v : Int) : zMem := (fun j => if j = k then v else M.1 j, M.2)
def putA (M : zMem) (id : Nat) (f : Int → Int) : zMem := (M.1, fun j => if j = id then f else M.2 j)
def upI (f : Int → Int) (i v : Int) : Int → Int := fun x => if x = i then v else f x
def setA (M : zMem) (id : Nat) (i v : Int) : zMem := putA M id (upI (M.2 id) i v)
-- numbers
theorem zr_toInt {x : Int} (h : inR x) : (Int32.ofInt x).toInt = x := Int32.toInt_ofInt_of_le (by have := h.1; omega) (by have := h.2; omega)
theorem zr_of (v : Int32) : inR v.toInt := ⟨by have := Int32.le_toInt v; omega, by have := Int32.toInt_lt v; omega⟩
theorem zr_back (v : Int32) : Int32.ofInt v.toInt = v := Int32.ofInt_toInt v
theorem zr_le {x y : Int} (hx : inR x) (hy : inR y) : Int32.ofInt x ≤ Int32.ofInt y ↔ x ≤ y := by
  rw [Int32.le_iff_toInt_le, zr_toInt hx, zr_toInt hy]
theorem zr_lt {x y : Int} (hx : inR x) (hy : inR y) : Int32.ofInt x < Int32.ofInt y ↔ x < y := by
  rw [Int32.lt_iff_toInt_lt, zr_toInt hx, zr_toInt hy]
theorem zr_eq {x y : Int} (hx : inR x) (hy : inR y) : Int32.ofInt x = Int32.ofInt y ↔ x = y := by
  rw [← Int32.toInt_inj, zr_toInt hx, zr_toInt hy]
theorem zr_0 : (0 : Int32) = Int32.ofInt 0 := by decide
theorem zr_inR0 : inR 0 := ⟨by decide, by decide⟩
theorem zr_cl {x : Int} (hx : inR x) : (Int32.ofInt x).toNatClampNeg = x.toNat := by
  show (Int32.ofInt x).toInt.toNat = x.toNat
  rw [zr_toInt hx]
theorem zr_in {x : Int} {n : Nat} (hx : inR x) (h0 : 0 ≤ x) (h1 : x < n) : vp_in (Int32.ofInt x) n := by
  rw [vp_in_iff, zr_toInt hx]
  exact ⟨h0, h1⟩
theorem zr_div {x y : Int} (hx : inR x) (hy : inR y) (h : 0 < y) : Int32.ofInt x / Int32.ofInt y = Int32.ofInt (x.tdiv y) := by
  rw [← Int32.toInt_inj, Int32.toInt_div_of_ne_right _ _ (by
    intro he
    have := congrArg Int32.toInt he
    rw [zr_toInt hy] at this
    have h2 : (-1 : Int32).toInt = -1 := by decide
    omega), zr_toInt hx, zr_toInt hy, zr_toInt]
  have h1 := hx.1
  have h2 := hx.2
  constructor
  · by_cases q : x < 0
    · have : x.tdiv y = -((-x).tdiv y) := by rw [Int.neg_tdiv, Int.neg_neg]
      rw [this, Int.tdiv_eq_ediv_of_nonneg (by omega)]
      have := Int.ediv_le_self (a := -x) y (by omega)
      omega
    · have q : 0 ≤ x := by omega
      have := Int.tdiv_nonneg q (Int.le_of_lt h)
      omega
  · by_cases q : x < 0
    · have : x.tdiv y = -((-x).tdiv y) := by rw [Int.neg_tdiv, Int.neg_neg]
      rw [this, Int.tdiv_eq_ediv_of_nonneg (by omega)]
      have := Int.ediv_nonneg (a := -x) (b := y) (by omega) (by omega)
      omega
    · have q : 0 ≤ x := by omega
      rw [Int.tdiv_eq_ediv_of_nonneg q]
      have := Int.ediv_le_self (a := x) y q
      omega
theorem zr_divR {x y : Int} (hx : inR x) (h : 0 < y) : inR (x.tdiv y) := by
  have h1 := hx.1
  have h2 := hx.2
  constructor
  · by_cases q : x < 0
    · have : x.tdiv y = -((-x).tdiv y) := by rw [Int.neg_tdiv, Int.neg_neg]
      rw [this, Int.tdiv_eq_ediv_of_nonneg (by omega)]
      have := Int.ediv_le_self (a := -x) y (by omega)
      omega
    · have q : 0 ≤ x := by omega
      have := Int.tdiv_nonneg q (Int.le_of_lt h)
      omega
  · by_cases q : x < 0
    · have : x.tdiv y = -((-x).tdiv y) := by rw [Int.neg_tdiv, Int.neg_neg]
      rw [this, Int.tdiv_eq_ediv_of_nonneg (by omega)]
      have := Int.ediv_nonneg (a := -x) (b := y) (by omega) (by omega)
      omega
    · have q : 0 ≤ x := by omega
      rw [Int.tdiv_eq_ediv_of_nonneg q]
      have := Int.ediv_le_self (a := x) y q
      omega
theorem zr_rem {x y : Int} (hx : inR x) (hy : inR y) (h : 0 < y) : Int32.ofInt x - Int32.ofInt x / Int32.ofInt y * Int32.ofInt y = Int32.ofInt (x.tmod y) := by
  rw [zr_div hx hy h, ← Int32.ofInt_mul, ← Int32.ofInt_sub, Int.tmod_def, Int.mul_comm]
theorem zr_remR {x y : Int} (hx : inR x) (hy : inR y) (h : 0 < y) : inR (x.tmod y) := by
  have h1 := Int.tmod_lt_of_pos x h
  have h2 : -y < x.tmod y := by
    have := Int.neg_tmod x y
    have := Int.tmod_lt_of_pos (-x) h
    omega
  have := hy.1
  have := hy.2
  exact ⟨by omega, by omega⟩
-- bits: what the machine's word operations answer, as numbers
def zand (x y : Int) : Int := (Int32.ofInt x &&& Int32.ofInt y).toInt
def zor (x y : Int) : Int := (Int32.ofInt x ||| Int32.ofInt y).toInt
def zxor (x y : Int) : Int := (Int32.ofInt x ^^^ Int32.ofInt y).toInt
def zshl (x y : Int) : Int := (Int32.ofInt x <<< (Int32.ofInt y &&& 31)).toInt
def zshr (x y : Int) : Int := (Int32.ofInt x >>> (Int32.ofInt y &&& 31)).toInt
def zushr (x y : Int) : Int := ((Int32.ofInt x).toUInt32 >>> ((Int32.ofInt y).toUInt32 &&& Int32.toUInt32 31)).toInt32.toInt
end
section
def zlenT : List (Nat × Nat) := [(0, 5), (1, 4), (2, 400), (4, 10), (5, 7), (64, 1334), (128, 661), (129, 4), (130, 10), (133, 5), (134, 16), (193, 400), (194, 256), (195, 2048), (256, 408), (257, 400), (260, 400), (261, 400), (262, 256), (321, 400), (322, 256), (323, 2048), (384, 408), (385, 400), (388, 400), (389, 400), (390, 256), (450, 4), (578, 8), (579, 5), (580, 5), (581, 5), (582, 1339), (583, 665), (584, 400), (590, 2600), (592, 2600), (593, 2700), (596, 256), (597, 2048), (598, 260), (599, 260), (601, 260), (602, 260), (607, 21424), (608, 16), (611, 4), (614, 10)]
def alen (id : Nat) : Int := match zlenT.lookup id with
  | some n => (n : Int)
  | none => 0
theorem alen_0 : alen 0 = 5 := by decide +kernel
theorem alen_1 : alen 1 = 4 := by decide +kernel
theorem alen_2 : alen 2 = 400 := by decide +kernel
theorem alen_4 : alen 4 = 10 := by decide +kernel
theorem alen_5 : alen 5 = 7 := by decide +kernel
theorem alen_64 : alen 64 = 1334 := by decide +kernel
theorem alen_128 : alen 128 = 661 := by decide +kernel
theorem alen_129 : alen 129 = 4 := by decide +kernel
theorem alen_130 : alen 130 = 10 := by decide +kernel
theorem alen_133 : alen 133 = 5 := by decide +kernel
theorem alen_134 : alen 134 = 16 := by decide +kernel
theorem alen_193 : alen 193 = 400 := by decide +kernel
theorem alen_194 : alen 194 = 256 := by decide +kernel
theorem alen_195 : alen 195 = 2048 := by decide +kernel
theorem alen_256 : alen 256 = 408 := by decide +kernel
theorem alen_257 : alen 257 = 400 := by decide +kernel
theorem alen_260 : alen 260 = 400 := by decide +kernel
theorem alen_261 : alen 261 = 400 := by decide +kernel
theorem alen_262 : alen 262 = 256 := by decide +kernel
theorem alen_321 : alen 321 = 400 := by decide +kernel
theorem alen_322 : alen 322 = 256 := by decide +kernel
theorem alen_323 : alen 323 = 2048 := by decide +kernel
theorem alen_384 : alen 384 = 408 := by decide +kernel
theorem alen_385 : alen 385 = 400 := by decide +kernel
theorem alen_388 : alen 388 = 400 := by decide +kernel
theorem alen_389 : alen 389 = 400 := by decide +kernel
theorem alen_390 : alen 390 = 256 := by decide +kernel
theorem alen_450 : alen 450 = 4 := by decide +kernel
theorem alen_578 : alen 578 = 8 := by decide +kernel
theorem alen_579 : alen 579 = 5 := by decide +kernel
theorem alen_580 : alen 580 = 5 := by decide +kernel
theorem alen_581 : alen 581 = 5 := by decide +kernel
theorem alen_582 : alen 582 = 1339 := by decide +kernel
theorem alen_583 : alen 583 = 665 := by decide +kernel
theorem alen_584 : alen 584 = 400 := by decide +kernel
theorem alen_590 : alen 590 = 2600 := by decide +kernel
theorem alen_592 : alen 592 = 2600 := by decide +kernel
theorem alen_593 : alen 593 = 2700 := by decide +kernel
theorem alen_596 : alen 596 = 256 := by decide +kernel
theorem alen_597 : alen 597 = 2048 := by decide +kernel
theorem alen_598 : alen 598 = 260 := by decide +kernel
theorem alen_599 : alen 599 = 260 := by decide +kernel
theorem alen_601 : alen 601 = 260 := by decide +kernel
theorem alen_602 : alen 602 = 260 := by decide +kernel
theorem alen_607 : alen 607 = 21424 := by decide +kernel
theorem alen_608 : alen 608 = 16 := by decide +kernel
theorem alen_611 : alen 611 = 4 := by decide +kernel
theorem alen_614 : alen 614 = 10 := by decide +kernel
abbrev zo0 (G : zG) (M : zMem) : Nat × va_E := (zad G 63, .inr (7, [.ref (zad G 0), .ref (zad G 1), .ref (zad G 2), .int (Int32.ofInt (M.1 3)), .ref (zad G 4), .ref (zad G 5), .int (Int32.ofInt (M.1 6)), .int (Int32.ofInt (M.1 7)), .int (Int32.ofInt (M.1 8)), .ref (zad G 127), .ref (zad G 191), .ref (zad G 383), .ref (zad G 511), .ref (zad G 575)]))
abbrev zo1 (G : zG) (M : zMem) : Nat × va_E := (zad G 127, .inr (0, [.ref (zad G 64), .int (Int32.ofInt (M.1 65)), .int (Int32.ofInt (M.1 66)), .int (Int32.ofInt (M.1 67)), .int (Int32.ofInt (M.1 68))]))
abbrev zo2 (G : zG) (M : zMem) : Nat × va_E := (zad G 191, .inr (1, [.ref (zad G 128), .ref (zad G 129), .ref (zad G 130), .int (Int32.ofInt (M.1 131)), .ref (zad G 255), .ref (zad G 133), .ref (zad G 134), .int (Int32.ofInt (M.1 135))]))
abbrev zo3 (G : zG) (M : zMem) : Nat × va_E := (zad G 255, .inr (6, [.ref (zad G 319), .ref (zad G 193), .ref (zad G 194), .ref (zad G 195)]))
abbrev zo4 (G : zG) (M : zMem) : Nat × va_E := (zad G 319, .inr (4, [.ref (zad G 256), .ref (zad G 257), .int (Int32.ofInt (M.1 258)), .int (Int32.ofInt (M.1 259)), .ref (zad G 260), .ref (zad G 261), .ref (zad G 262), .int (Int32.ofInt (M.1 263))]))
abbrev zo5 (G : zG) (M : zMem) : Nat × va_E := (zad G 383, .inr (6, [.ref (zad G 447), .ref (zad G 321), .ref (zad G 322), .ref (zad G 323)]))
abbrev zo6 (G : zG) (M : zMem) : Nat × va_E := (zad G 447, .inr (4, [.ref (zad G 384), .ref (zad G 385), .int (Int32.ofInt (M.1 386)), .int (Int32.ofInt (M.1 387)), .ref (zad G 388), .ref (zad G 389), .ref (zad G 390), .int (Int32.ofInt (M.1 391))]))
abbrev zo7 (G : zG) (M : zMem) : Nat × va_E := (zad G 511, .inr (2, [.int (Int32.ofInt (M.1 448)), .int (Int32.ofInt (M.1 449)), .ref (zad G 450)]))
abbrev zo8 (G : zG) (M : zMem) : Nat × va_E := (zad G 575, .inr (5, [.int (Int32.ofInt (M.1 512)), .ref (zad G 513), .int (Int32.ofInt (M.1 514))]))
abbrev zo9 (G : zG) (M : zMem) : Nat × va_E := (zad G 639, .inr (8, [.int (Int32.ofInt (M.1 576)), .int (Int32.ofInt (M.1 577)), .ref (zad G 578), .ref (zad G 579), .ref (zad G 580), .ref (zad G 581), .ref (zad G 582), .ref (zad G 583), .ref (zad G 584), .int (Int32.ofInt (M.1 585)), .int (Int32.ofInt (M.1 586)), .int (Int32.ofInt (M.1 587)), .int (Int32.ofInt (M.1 588)), .int (Int32.ofInt (M.1 589)), .ref (zad G 590), .int (Int32.ofInt (M.1 591)), .ref (zad G 592), .ref (zad G 593), .int (Int32.ofInt (M.1 594)), .int (Int32.ofInt (M.1 595)), .ref (zad G 596), .ref (zad G 597), .ref (zad G 598), .ref (zad G 599), .int (Int32.ofInt (M.1 600)), .ref (zad G 601), .ref (zad G 602), .int (Int32.ofInt (M.1 603)), .int (Int32.ofInt (M.1 604)), .int (Int32.ofInt (M.1 605)), .int (Int32.ofInt (M.1 606)), .ref (zad G 607), .ref (zad G 608), .int (Int32.ofInt (M.1 609)), .int (Int32.ofInt (M.1 610)), .ref (zad G 611), .int (Int32.ofInt (M.1 612)), .int (Int32.ofInt (M.1 613)), .ref (zad G 614), .int (Int32.ofInt (M.1 615))]))
def zobjs (G : zG) (M : zMem) : va_W := [zo0 G M, zo1 G M, zo2 G M, zo3 G M, zo4 G M, zo5 G M, zo6 G M, zo7 G M, zo8 G M, zo9 G M]
abbrev zarrE (G : zG) (n : Nat) (f : Int → Int) : va_E := .inl (G.2.1, n, .inl (fun j : Nat => Int32.ofInt (f (j : Int))))
def zarrs (G : zG) (M : zMem) : va_W := zlenT.map (fun q => (zad G q.1, zarrE G q.2 (M.2 q.1)))
def zcl (G : zG) (M : zMem) (X : va_W) : va_W := zobjs G M ++ (zarrs G M ++ X)
-- the moments: made one by one; number i is the object 16 + i, its scalar 5 says whether it is there (1)
abbrev zmomC (G : zG) (M : zMem) (f : Nat → Option (Nat × Nat × Nat)) (i : Nat) : va_W := match f i with
  | none => []
  | some (a, b, d) => [(a, .inr (3, [.int (Int32.ofInt (M.1 (64 * (16 + i)))), .int (Int32.ofInt (M.1 (64 * (16 + i) + 1))), .ref b, .ref d])), (b, zarrE G 1334 (M.2 (64 * (16 + i) + 2))), (d, zarrE G 4 (M.2 (64 * (16 + i) + 3)))]
abbrev zmomX (G : zG) (M : zMem) (f : Nat → Option (Nat × Nat × Nat)) : va_W := (zad G 513, .inl (G.2.2.1, 16, .inr (.inr (.inr (.inr (fun i => (f i).map (fun q => q.1))))))) :: (List.range 16).flatMap (zmomC G M f)
def zMo (G : zG) (M : zMem) (X : va_W) : Prop := ∃ f : Nat → Option (Nat × Nat × Nat), (∀ i, i < 16 → M.1 (64 * (16 + i) + 5) = 1 → f i ≠ none) ∧ X = zmomX G M f
def zRM (M : zMem) : Prop := (∀ k, inR (M.1 k)) ∧ ∀ id i, inR (M.2 id i)
def zWd (G : zG) (M : zMem) (X : va_W) (H : Heap) : Prop := va_P G.1 vwCl (zcl G M X) H ∧ va_D (zA G) (zcl G M X) ∧ zMo G M X ∧ zRM M
theorem zlen_nd : (zlenT.map (fun q => q.1)).Nodup := by decide +kernel
theorem zlen_small : ∀ q ∈ zlenT, q.1 < 640 ∧ q.2 < 30000 := by decide +kernel
theorem zlook {α : Type} {id : Nat} {n : α} : ∀ {l : List (Nat × α)}, l.lookup id = some n → (id, n) ∈ l
  | [], h => by cases h
  | (k, b) :: es, h => by
    rw [List.lookup_cons] at h
    cases hk : (id == k) with
    | true =>
      rw [hk] at h
      cases h
      rw [eq_of_beq hk]
      exact List.mem_cons_self
    | false =>
      rw [hk] at h
      exact List.mem_cons_of_mem _ (zlook h)
theorem zlen_mem {id : Nat} {i : Int} (h : 0 ≤ i ∧ i < alen id) : ∃ n : Nat, (id, n) ∈ zlenT ∧ alen id = n := by
  unfold alen at h ⊢
  cases hl : zlenT.lookup id with
  | none => rw [hl] at h; exact absurd h (by dsimp only; omega)
  | some n => exact ⟨n, zlook hl, rfl⟩
theorem zlen_uniq {i j : Nat} {a b c : Nat} (hi : zlenT[i]? = some (a, b)) (hj : zlenT[j]? = some (a, c)) : i = j := by
  have h1 : (zlenT.map (fun q => q.1))[i]? = some a := by rw [List.getElem?_map, hi]; rfl
  have h2 : (zlenT.map (fun q => q.1))[j]? = some a := by rw [List.getElem?_map, hj]; rfl
  have hl : i < (zlenT.map (fun q => q.1)).length := (List.getElem?_eq_some_iff.mp h1).1
  exact (List.getElem?_inj hl zlen_nd).mp (h1.trans h2.symm)
theorem zobjs_len (G : zG) (M : zMem) : (zobjs G M).length = 10 := rfl
theorem zarr_at (G : zG) (M : zMem) (X : va_W) {id n : Nat} (h : (id, n) ∈ zlenT) : ∃ k : Nat, (zcl G M X)[k]? = some (zad G id, zarrE G n (M.2 id)) ∧ ∀ f : Int → Int, (zcl G M X).set k (zad G id, zarrE G n f) = zcl G (putA M id f) X := by
  obtain ⟨i, hi⟩ := List.getElem?_of_mem h
  have hil : i < zlenT.length := (List.getElem?_eq_some_iff.mp hi).1
  have hlen : ∀ M', (zarrs G M').length = zlenT.length := fun M' => List.length_map _
  refine ⟨10 + i, ?_, fun f => ?_⟩
  · unfold zcl
    rw [List.getElem?_append_right (by rw [zobjs_len]; omega), zobjs_len, Nat.add_sub_cancel_left, List.getElem?_append_left (by rw [hlen]; exact hil)]
    unfold zarrs
    rw [List.getElem?_map, hi]
    rfl
  · unfold zcl
    rw [List.set_append_right _ _ (by rw [zobjs_len]; omega), zobjs_len, Nat.add_sub_cancel_left, List.set_append_left _ _ (by rw [hlen]; exact hil)]
    have e1 : zobjs G (putA M id f) = zobjs G M := rfl
    rw [e1]
    congr 2
    apply List.ext_getElem?
    intro j
    unfold zarrs
    rw [List.getElem?_set, List.getElem?_map]
    by_cases hij : i = j
    · subst hij
      rw [if_pos rfl, if_pos (by rw [List.length_map]; exact hil), List.getElem?_map, hi]
      simp only [Option.map_some, putA, if_true]
    · rw [if_neg hij, List.getElem?_map]
      cases hj : zlenT[j]? with
      | none => rfl
      | some q =>
        have hne : q.1 ≠ id := fun he => hij (zlen_uniq hi (by rw [hj]; exact congrArg some (Prod.ext he rfl) : zlenT[j]? = some (id, q.2)))
        simp only [Option.map_some, putA, if_neg hne]
theorem zMo_put {G : zG} {M : zMem} {X : va_W} (h : zMo G M X) {id : Nat} (hid : id < 1024) (f : Int → Int) : zMo G (putA M id f) X := by
  obtain ⟨g, h1, h2⟩ := h
  refine ⟨g, h1, h2.trans ?_⟩
  unfold zmomX
  congr 1
  refine congrArg (fun F => List.flatMap F (List.range 16)) (funext fun i => ?_)
  unfold zmomC
  have e1 : (putA M id f).2 (64 * (16 + i) + 2) = M.2 (64 * (16 + i) + 2) := if_neg (by omega)
  have e2 : (putA M id f).2 (64 * (16 + i) + 3) = M.2 (64 * (16 + i) + 3) := if_neg (by omega)
  rw [e1, e2]
  rfl
theorem zMo_set {G : zG} {M : zMem} {X : va_W} (h : zMo G M X) {k : Nat} (hk : k < 1024) (v : Int) : zMo G (setS M k v) X := by
  obtain ⟨g, h1, h2⟩ := h
  have e0 : ∀ i t, (setS M k v).1 (64 * (16 + i) + t) = M.1 (64 * (16 + i) + t) := fun i t => if_neg (by omega)
  refine ⟨g, fun i hi hg => h1 i hi (by rw [← e0]; exact hg), h2.trans ?_⟩
  unfold zmomX
  congr 1
  refine congrArg (fun F => List.flatMap F (List.range 16)) (funext fun i => ?_)
  unfold zmomC
  have e1 : (setS M k v).1 (64 * (16 + i)) = M.1 (64 * (16 + i)) := e0 i 0
  rw [e1, e0 i 1]
  rfl
theorem zRM_set {M : zMem} (h : zRM M) {k : Nat} {v : Int} (hv : inR v) : zRM (setS M k v) := ⟨fun j => by unfold setS; dsimp only; split; exact hv; exact h.1 j, h.2⟩
theorem zRM_put {M : zMem} (h : zRM M) {id : Nat} {f : Int → Int} (hf : ∀ i, inR (f i)) : zRM (putA M id f) := ⟨h.1, fun j i => by unfold putA; dsimp only; split; exact hf i; exact h.2 j i⟩
theorem zRM_up {M : zMem} (h : zRM M) {id : Nat} {i v : Int} (hv : inR v) : ∀ j, inR (upI (M.2 id) i v j) := fun j => by unfold upI; split; exact hv; exact h.2 id j
end
section
-- the nest's words (they are kept by warming, not among lw_ws)
def zNW : List Cond := [.methodLinkNest "PackedPages" 49 ⟨"PackedPages$Draft", "<init>", "()V"⟩ "PackedPages", .methodLinkNest "PackedPages$Draft" 27 ⟨"PackedPages$Records", "<init>", "()V"⟩ "PackedPages", .methodLinkNest "PackedPages$Records" 11 ⟨"PackedPages$Packer", "<init>", "()V"⟩ "PackedPages", .methodLinkNest "PackedPages" 56 ⟨"PackedPages$Records", "<init>", "()V"⟩ "PackedPages", .methodLinkNest "PackedPages" 63 ⟨"PackedPages$Frames", "<init>", "()V"⟩ "PackedPages", .methodLinkNest "PackedPages" 70 ⟨"PackedPages$Past", "<init>", "()V"⟩ "PackedPages", .methodLinkNest "PackedPages$Records" 74 ⟨"PackedPages", "isByte", "(I)Z"⟩ "PackedPages", .methodLinkNest "PackedPages$Past" 24 ⟨"PackedPages$Moment", "<init>", "()V"⟩ "PackedPages"]
def zKK (G : zG) (U : State) : Prop := va_K G.1 vwCl (ztys G) U ∧ (∀ w ∈ zNW, va_Nw w U) ∧ va_AO "PackedPages$Moment" U
theorem zNW_warm {s U : State} (hW : s.WarmedH U.vm) (h : ∀ w ∈ zNW, va_Nw w s) : ∀ w ∈ zNW, va_Nw w U := by
  simp only [zNW, List.forall_mem_cons] at h ⊢
  exact ⟨va_Nw.warmM hW h.1, va_Nw.warmM hW h.2.1, va_Nw.warmM hW h.2.2.1, va_Nw.warmM hW h.2.2.2.1, va_Nw.warmM hW h.2.2.2.2.1, va_Nw.warmM hW h.2.2.2.2.2.1, va_Nw.warmM hW h.2.2.2.2.2.2.1, va_Nw.warmM hW h.2.2.2.2.2.2.2.1, fun _ h => by cases h⟩
theorem zNW_same {u U : State} (hvm : u.vm = U.vm) (h : ∀ w ∈ zNW, va_Nw w u) : ∀ w ∈ zNW, va_Nw w U := by
  simp only [zNW, List.forall_mem_cons] at h ⊢
  exact ⟨va_Nw.same rfl hvm h.1, va_Nw.same rfl hvm h.2.1, va_Nw.same rfl hvm h.2.2.1, va_Nw.same rfl hvm h.2.2.2.1, va_Nw.same rfl hvm h.2.2.2.2.1, va_Nw.same rfl hvm h.2.2.2.2.2.1, va_Nw.same rfl hvm h.2.2.2.2.2.2.1, va_Nw.same rfl hvm h.2.2.2.2.2.2.2.1, fun _ h => by cases h⟩
theorem zKK_warm {G : zG} {s U : State} (hW : s.WarmedH U.vm) (h : zKK G s) : zKK G U := ⟨va_K.moved hW.alike h.1, zNW_warm hW h.2.1, va_AO.moved hW.alike h.2.2⟩
theorem zKK_same {G : zG} {u U : State} (hvm : u.vm = U.vm) (h : zKK G u) : zKK G U := ⟨va_K.moved (by rw [hvm]; exact Vm.Alike.refl U.vm) h.1, zNW_same hvm h.2.1, va_AO.moved (by rw [hvm]; exact Vm.Alike.refl U.vm) h.2.2⟩
-- locals by their places
def zpl (G : zG) : Nat → List (Option zV) → List (Nat × Value)
  | _, [] => []
  | i, none :: t => zpl G (i + 1) t
  | i, some v :: t => (i, zmv G v) :: zpl G (i + 1) t
theorem zpl_mem {G : zG} {q : Nat × Value} : ∀ {k : Nat} {L : List (Option zV)}, q ∈ zpl G k L ↔ ∃ (j : Nat) (v : zV), q.1 = k + j ∧ L[j]? = some (some v) ∧ q.2 = zmv G v
  | k, [] => by simp [zpl]
  | k, none :: t => by
    unfold zpl
    rw [zpl_mem (k := k + 1) (L := t)]
    constructor
    · rintro ⟨j, v, h1, h2, h3⟩
      exact ⟨j + 1, v, by omega, by simpa using h2, h3⟩
    · rintro ⟨j, v, h1, h2, h3⟩
      cases j with
      | zero => simp at h2
      | succ j => exact ⟨j, v, by omega, by simpa using h2, h3⟩
  | k, some w :: t => by
    unfold zpl
    rw [List.mem_cons, zpl_mem (k := k + 1) (L := t)]
    constructor
    · rintro (h | ⟨j, v, h1, h2, h3⟩)
      · exact ⟨0, w, by rw [h]; rfl, rfl, by rw [h]⟩
      · exact ⟨j + 1, v, by omega, by simpa using h2, h3⟩
    · rintro ⟨j, v, h1, h2, h3⟩
      cases j with
      | zero =>
        refine Or.inl ?_
        have : w = v := by simpa using h2
        subst this
        exact Prod.ext (by rw [h1]; rfl) h3
      | succ j => exact Or.inr ⟨j, v, by omega, by simpa using h2, h3⟩
theorem zpl_at {G : zG} {ls : Array Slot} {nL : Nat} {L : List (Option zV)} (h : lv_has ls nL (zpl G 0 L)) {i : Nat} {v : zV} (hi : L[i]? = some (some v)) : ls[i]? = some (.val (zmv G v)) :=
  h.2.2 (i, zmv G v) (zpl_mem.mpr ⟨i, v, (Nat.zero_add i).symm, hi, rfl⟩)
theorem zcat (G : zG) (v : zV) : (zmv G v).category = 1 := by cases v <;> rfl
theorem zpl_set {G : zG} {ls : Array Slot} {nL : Nat} {L : List (Option zV)} {i : Nat} {v : zV} (h : lv_has ls nL ((i, zmv G v) :: (zpl G 0 L).filter (fun q => !(q.1 == i) && !(q.1 + 1 == i && q.2.category == 2)))) : lv_has ls nL (zpl G 0 (L.set i (some v))) := by
  refine ⟨h.1, h.2.1, fun q hq => ?_⟩
  obtain ⟨j, w, h1, h2, h3⟩ := zpl_mem.mp hq
  rw [Nat.zero_add] at h1
  refine h.2.2 q ?_
  rw [List.getElem?_set] at h2
  by_cases hij : i = j
  · rw [if_pos hij] at h2
    split at h2
    · have : v = w := by simpa using h2
      refine List.mem_cons.mpr (Or.inl (Prod.ext (by rw [h1, hij]) (by rw [h3, this])))
    · cases h2
  · rw [if_neg hij] at h2
    refine List.mem_cons_of_mem _ (List.mem_filter.mpr ⟨zpl_mem.mpr ⟨j, w, by omega, h2, h3⟩, ?_⟩)
    have h5 : (q.1 == i) = false := by rw [beq_eq_false_iff_ne]; omega
    have h6 : (q.2.category == 2) = false := by rw [h3, zcat]; rfl
    rw [h5, h6, Bool.and_false]
    rfl
def zmask : List Bool → List (Option zV) → List (Option zV)
  | [], _ => []
  | _ :: _, [] => []
  | b :: bs, v :: vs => (if b then v else none) :: zmask bs vs
theorem zmask_at : ∀ {bs : List Bool} {L : List (Option zV)} {i : Nat} {v : zV}, (zmask bs L)[i]? = some (some v) → L[i]? = some (some v)
  | [], _, _, _, h => by simp [zmask] at h
  | _ :: _, [], _, _, h => by simp [zmask] at h
  | b :: bs, w :: vs, i, v, h => by
    unfold zmask at h
    cases i with
    | zero =>
      cases b with
      | true => simpa using h
      | false => simp at h
    | succ i =>
      have := zmask_at (bs := bs) (L := vs) (i := i) (v := v) (by simpa using h)
      simpa using this
section zRules
variable {p : Program} {l : Launch} {e : Env} {R : Room} {s : State} {m : MethodId} {args : Array Value} {below : List Frame} {meth : Method} {c : Code} {cells slots : Nat} {Q : State → Prop} {cc : ByteArray} {nL : Nat} {own : String} {G : zG} {pc : Nat} {L : List (Option zV)} {st : List zV} {M : zMem}
def zJ (p : Program) (l : Launch) (e : Env) (R : Room) (s : State) (m : MethodId) (args : Array Value) (below : List Frame) (meth : Method) (c : Code) (G : zG) (nL cells slots : Nat) (Q : State → Prop) (pc : Nat) (L : List (Option zV)) (st : List zV) (M : zMem) : Prop :=
  (∀ v ∈ st, zok v) → (∀ v, some v ∈ L → zok v) → ∀ (ls : Array Slot) (H : Heap) (locs : List Loc) (X : va_W), lv_has ls nL (zpl G 0 L) → zWd G M X H → va_S (zA G) s.heap H locs → W p l e R s m args below meth c H locs cells slots Q (F0 m pc ls (st.map (zmv G)))
def zCx (p : Program) (s : State) (m : MethodId) (args : Array Value) (c : Code) (cc : ByteArray) (nL : Nat) (own : String) (G : zG) : Prop :=
  p.tables.exec = Jvm.exec ∧ c.code = cc ∧ c.maxLocals = nL ∧ s.vm.findClass own = some m.cls ∧ (∀ w ∈ lw_ws, w.before args s = true) ∧ zKK G s ∧ zbs G ≤ s.heap.size
theorem zokL {L : List (Option zV)} (h2 : ∀ v, some v ∈ L → zok v) {i : Nat} {v : zV} (hl : L[i]? = some (some v)) : zok v := h2 v (List.mem_of_getElem? hl)
theorem zokC {v : zV} {st : List zV} (h : ∀ v ∈ st, zok v) (hv : zok v) : ∀ w ∈ v :: st, zok w := List.forall_mem_cons.mpr ⟨hv, h⟩
theorem zokT {v : zV} {st : List zV} (h : ∀ w ∈ v :: st, zok w) : ∀ w ∈ st, zok w := (List.forall_mem_cons.mp h).2
theorem zokH {v : zV} {st : List zV} (h : ∀ w ∈ v :: st, zok w) : zok v := (List.forall_mem_cons.mp h).1
theorem zokS {L : List (Option zV)} (h2 : ∀ v, some v ∈ L → zok v) {i : Nat} {v : zV} (hv : zok v) : ∀ w, some w ∈ L.set i (some v) → zok w := by
  intro w hw
  rcases List.mem_or_eq_of_mem_set hw with h | h
  · exact h2 w h
  · cases h; exact hv
theorem zj_mask {bs : List Bool} (kk : zJ p l e R s m args below meth c G nL cells slots Q pc (zmask bs L) st M) : zJ p l e R s m args below meth c G nL cells slots Q pc L st M := by
  intro h1 h2 ls H locs X hL hW hS
  refine kk h1 (fun v hv => ?_) ls H locs X ⟨hL.1, hL.2.1, fun q hq => ?_⟩ hW hS
  · obtain ⟨i, hi⟩ := List.getElem?_of_mem hv
    exact zokL h2 (zmask_at hi)
  · obtain ⟨j, w, e1, e2, e3⟩ := zpl_mem.mp hq
    exact hL.2.2 q (zpl_mem.mpr ⟨j, w, e1, zmask_at e2, e3⟩)
theorem zj_iconst (hc : zCx p s m args c cc nL own G) {n : Int} (hd : decode cc pc = .ok (.iconst n, 1)) (hr : inR n) (kk : zJ p l e R s m args below meth c G nL cells slots Q (pc + 1) L (.inl n :: st) M) : zJ p l e R s m args below meth c G nL cells slots Q pc L st M := by
  intro h1 h2 ls H locs X hL hW hS
  exact lv_iconst hc.1 hc.2.1 hd rfl (kk (zokC h1 hr) h2 ls H locs X hL hW hS)
theorem zj_bipush (hc : zCx p s m args c cc nL own G) {n : Int} (hd : decode cc pc = .ok (.bipush n, 2)) (hv : (Int8.ofInt n).toInt32 = Int32.ofInt n) (hr : inR n) (kk : zJ p l e R s m args below meth c G nL cells slots Q (pc + 2) L (.inl n :: st) M) : zJ p l e R s m args below meth c G nL cells slots Q pc L st M := by
  intro h1 h2 ls H locs X hL hW hS
  exact lv_bipush hc.1 hc.2.1 hd hv (kk (zokC h1 hr) h2 ls H locs X hL hW hS)
theorem zj_sipush (hc : zCx p s m args c cc nL own G) {n : Int} (hd : decode cc pc = .ok (.sipush n, 3)) (hv : (Int16.ofInt n).toInt32 = Int32.ofInt n) (hr : inR n) (kk : zJ p l e R s m args below meth c G nL cells slots Q (pc + 3) L (.inl n :: st) M) : zJ p l e R s m args below meth c G nL cells slots Q pc L st M := by
  intro h1 h2 ls H locs X hL hW hS
  exact lv_sipush hc.1 hc.2.1 hd hv (kk (zokC h1 hr) h2 ls H locs X hL hW hS)

theorem zj_iload (hc : zCx p s m args c cc nL own G) {i : Nat} {x : Int} (hd : decode cc pc = .ok (.iload i, 2)) (hl : L[i]? = some (some (.inl x))) (kk : zJ p l e R s m args below meth c G nL cells slots Q (pc + 2) L (.inl x :: st) M) : zJ p l e R s m args below meth c G nL cells slots Q pc L st M := by
  intro h1 h2 ls H locs X hL hW hS
  exact lv_iload hc.1 hc.2.1 hd (zpl_at hL hl) (kk (zokC h1 (zokL h2 hl)) h2 ls H locs X hL hW hS)
theorem zj_iload_n (hc : zCx p s m args c cc nL own G) {k : Fin 4} {x : Int} (hd : decode cc pc = .ok (.iload_n k, 1)) (hl : L[(k : Nat)]? = some (some (.inl x))) (kk : zJ p l e R s m args below meth c G nL cells slots Q (pc + 1) L (.inl x :: st) M) : zJ p l e R s m args below meth c G nL cells slots Q pc L st M := by
  intro h1 h2 ls H locs X hL hW hS
  exact lv_iload_n hc.1 hc.2.1 hd rfl (zpl_at hL hl) (kk (zokC h1 (zokL h2 hl)) h2 ls H locs X hL hW hS)
theorem zj_aload (hc : zCx p s m args c cc nL own G) {i : Nat} {x : Nat} (hd : decode cc pc = .ok (.aload i, 2)) (hl : L[i]? = some (some (.inr x))) (kk : zJ p l e R s m args below meth c G nL cells slots Q (pc + 2) L (.inr x :: st) M) : zJ p l e R s m args below meth c G nL cells slots Q pc L st M := by
  intro h1 h2 ls H locs X hL hW hS
  exact lv_aload hc.1 hc.2.1 hd (zpl_at hL hl) (kk (zokC h1 (zokL h2 hl)) h2 ls H locs X hL hW hS)
theorem zj_aload_n (hc : zCx p s m args c cc nL own G) {k : Fin 4} {x : Nat} (hd : decode cc pc = .ok (.aload_n k, 1)) (hl : L[(k : Nat)]? = some (some (.inr x))) (kk : zJ p l e R s m args below meth c G nL cells slots Q (pc + 1) L (.inr x :: st) M) : zJ p l e R s m args below meth c G nL cells slots Q pc L st M := by
  intro h1 h2 ls H locs X hL hW hS
  exact lv_aload_n hc.1 hc.2.1 hd rfl (zpl_at hL hl) (kk (zokC h1 (zokL h2 hl)) h2 ls H locs X hL hW hS)
theorem zj_istore (hc : zCx p s m args c cc nL own G) {i : Nat} {x : Int} (hd : decode cc pc = .ok (.istore i, 2)) (hn : i < nL) (kk : zJ p l e R s m args below meth c G nL cells slots Q (pc + 2) (L.set i (some (.inl x))) st M) : zJ p l e R s m args below meth c G nL cells slots Q pc L (.inl x :: st) M := by
  intro h1 h2 ls H locs X hL hW hS
  refine lv_istore hc.1 hc.2.1 hd hL hn rfl (fun ls2 hL2 => ?_)
  exact kk (zokT h1) (zokS h2 (zokH h1)) ls2 H locs X (zpl_set (v := .inl x) hL2) hW hS
theorem zj_istore_n (hc : zCx p s m args c cc nL own G) {k : Fin 4} {x : Int} (hd : decode cc pc = .ok (.istore_n k, 1)) (hn : (k : Nat) < nL) (kk : zJ p l e R s m args below meth c G nL cells slots Q (pc + 1) (L.set (k : Nat) (some (.inl x))) st M) : zJ p l e R s m args below meth c G nL cells slots Q pc L (.inl x :: st) M := by
  intro h1 h2 ls H locs X hL hW hS
  refine lv_istore_n hc.1 hc.2.1 hd rfl hL hn rfl (fun ls2 hL2 => ?_)
  exact kk (zokT h1) (zokS h2 (zokH h1)) ls2 H locs X (zpl_set (v := .inl x) hL2) hW hS
theorem zj_astore (hc : zCx p s m args c cc nL own G) {i : Nat} {x : Nat} (hd : decode cc pc = .ok (.astore i, 2)) (hn : i < nL) (kk : zJ p l e R s m args below meth c G nL cells slots Q (pc + 2) (L.set i (some (.inr x))) st M) : zJ p l e R s m args below meth c G nL cells slots Q pc L (.inr x :: st) M := by
  intro h1 h2 ls H locs X hL hW hS
  refine lv_astore hc.1 hc.2.1 hd hL hn rfl (fun ls2 hL2 => ?_)
  exact kk (zokT h1) (zokS h2 (zokH h1)) ls2 H locs X (zpl_set (v := .inr x) hL2) hW hS
theorem zj_astore_n (hc : zCx p s m args c cc nL own G) {k : Fin 4} {x : Nat} (hd : decode cc pc = .ok (.astore_n k, 1)) (hn : (k : Nat) < nL) (kk : zJ p l e R s m args below meth c G nL cells slots Q (pc + 1) (L.set (k : Nat) (some (.inr x))) st M) : zJ p l e R s m args below meth c G nL cells slots Q pc L (.inr x :: st) M := by
  intro h1 h2 ls H locs X hL hW hS
  refine lv_astore_n hc.1 hc.2.1 hd rfl hL hn rfl (fun ls2 hL2 => ?_)
  exact kk (zokT h1) (zokS h2 (zokH h1)) ls2 H locs X (zpl_set (v := .inr x) hL2) hW hS
theorem zj_iinc (hc : zCx p s m args c cc nL own G) {i : Nat} {n x : Int} (hd : decode cc pc = .ok (.iinc i n, 3)) (hl : L[i]? = some (some (.inl x))) (hn : i < nL) (hr : inR (x + n)) (kk : zJ p l e R s m args below meth c G nL cells slots Q (pc + 3) (L.set i (some (.inl (x + n)))) st M) : zJ p l e R s m args below meth c G nL cells slots Q pc L st M := by
  intro h1 h2 ls H locs X hL hW hS
  obtain ⟨k, hk⟩ := List.getElem?_of_mem (zpl_mem (G := G) (k := 0) (q := (i, zmv G (.inl x))) |>.mpr ⟨i, .inl x, (Nat.zero_add i).symm, hl, rfl⟩)
  refine lv_iinc (v := Int32.ofInt (x + n)) hc.1 hc.2.1 hd hL (k := k) hk (by rw [Int32.ofInt_add]) hn rfl (fun ls2 hL2 => ?_)
  exact kk h1 (zokS h2 hr) ls2 H locs X (zpl_set (v := .inl (x + n)) hL2) hW hS
theorem zj_iadd (hc : zCx p s m args c cc nL own G) {x y : Int} (hd : decode cc pc = .ok (.iadd, 1)) (hr : inR (x + y)) (kk : zJ p l e R s m args below meth c G nL cells slots Q (pc + 1) L (.inl (x + y) :: st) M) : zJ p l e R s m args below meth c G nL cells slots Q pc L (.inl y :: .inl x :: st) M := by
  intro h1 h2 ls H locs X hL hW hS
  have he : Int32.ofInt x + Int32.ofInt y = Int32.ofInt (x + y) := by rw [← Int32.ofInt_add]
  refine lv_iadd hc.1 hc.2.1 hd ?_
  rw [he]
  exact kk (zokC (zokT (zokT h1)) hr) h2 ls H locs X hL hW hS
theorem zj_isub (hc : zCx p s m args c cc nL own G) {x y : Int} (hd : decode cc pc = .ok (.isub, 1)) (hr : inR (x - y)) (kk : zJ p l e R s m args below meth c G nL cells slots Q (pc + 1) L (.inl (x - y) :: st) M) : zJ p l e R s m args below meth c G nL cells slots Q pc L (.inl y :: .inl x :: st) M := by
  intro h1 h2 ls H locs X hL hW hS
  have he : Int32.ofInt x - Int32.ofInt y = Int32.ofInt (x - y) := by rw [← Int32.ofInt_sub]
  refine lv_isub hc.1 hc.2.1 hd ?_
  rw [he]
  exact kk (zokC (zokT (zokT h1)) hr) h2 ls H locs X hL hW hS
theorem zj_imul (hc : zCx p s m args c cc nL own G) {x y : Int} (hd : decode cc pc = .ok (.imul, 1)) (hr : inR (x * y)) (kk : zJ p l e R s m args below meth c G nL cells slots Q (pc + 1) L (.inl (x * y) :: st) M) : zJ p l e R s m args below meth c G nL cells slots Q pc L (.inl y :: .inl x :: st) M := by
  intro h1 h2 ls H locs X hL hW hS
  have he : Int32.ofInt x * Int32.ofInt y = Int32.ofInt (x * y) := by rw [← Int32.ofInt_mul]
  refine lv_imul hc.1 hc.2.1 hd ?_
  rw [he]
  exact kk (zokC (zokT (zokT h1)) hr) h2 ls H locs X hL hW hS
theorem zj_iand (hc : zCx p s m args c cc nL own G) {x y : Int} (hd : decode cc pc = .ok (.iand, 1)) (kk : zJ p l e R s m args below meth c G nL cells slots Q (pc + 1) L (.inl (zand x y) :: st) M) : zJ p l e R s m args below meth c G nL cells slots Q pc L (.inl y :: .inl x :: st) M := by
  intro h1 h2 ls H locs X hL hW hS
  have he : Int32.ofInt x &&& Int32.ofInt y = Int32.ofInt (zand x y) := by unfold zand; rw [zr_back]
  refine lv_iand hc.1 hc.2.1 hd ?_
  rw [he]
  exact kk (zokC (zokT (zokT h1)) (zr_of _)) h2 ls H locs X hL hW hS
theorem zj_ior (hc : zCx p s m args c cc nL own G) {x y : Int} (hd : decode cc pc = .ok (.ior, 1)) (kk : zJ p l e R s m args below meth c G nL cells slots Q (pc + 1) L (.inl (zor x y) :: st) M) : zJ p l e R s m args below meth c G nL cells slots Q pc L (.inl y :: .inl x :: st) M := by
  intro h1 h2 ls H locs X hL hW hS
  have he : Int32.ofInt x ||| Int32.ofInt y = Int32.ofInt (zor x y) := by unfold zor; rw [zr_back]
  refine lv_ior hc.1 hc.2.1 hd ?_
  rw [he]
  exact kk (zokC (zokT (zokT h1)) (zr_of _)) h2 ls H locs X hL hW hS
theorem zj_ixor (hc : zCx p s m args c cc nL own G) {x y : Int} (hd : decode cc pc = .ok (.ixor, 1)) (kk : zJ p l e R s m args below meth c G nL cells slots Q (pc + 1) L (.inl (zxor x y) :: st) M) : zJ p l e R s m args below meth c G nL cells slots Q pc L (.inl y :: .inl x :: st) M := by
  intro h1 h2 ls H locs X hL hW hS
  have he : Int32.ofInt x ^^^ Int32.ofInt y = Int32.ofInt (zxor x y) := by unfold zxor; rw [zr_back]
  refine lv_ixor hc.1 hc.2.1 hd ?_
  rw [he]
  exact kk (zokC (zokT (zokT h1)) (zr_of _)) h2 ls H locs X hL hW hS
theorem zj_ishl (hc : zCx p s m args c cc nL own G) {x y : Int} (hd : decode cc pc = .ok (.ishl, 1)) (kk : zJ p l e R s m args below meth c G nL cells slots Q (pc + 1) L (.inl (zshl x y) :: st) M) : zJ p l e R s m args below meth c G nL cells slots Q pc L (.inl y :: .inl x :: st) M := by
  intro h1 h2 ls H locs X hL hW hS
  have he : Int32.ofInt x <<< (Int32.ofInt y &&& 31) = Int32.ofInt (zshl x y) := by unfold zshl; rw [zr_back]
  refine lv_ishl hc.1 hc.2.1 hd ?_
  rw [he]
  exact kk (zokC (zokT (zokT h1)) (zr_of _)) h2 ls H locs X hL hW hS
theorem zj_ishr (hc : zCx p s m args c cc nL own G) {x y : Int} (hd : decode cc pc = .ok (.ishr, 1)) (kk : zJ p l e R s m args below meth c G nL cells slots Q (pc + 1) L (.inl (zshr x y) :: st) M) : zJ p l e R s m args below meth c G nL cells slots Q pc L (.inl y :: .inl x :: st) M := by
  intro h1 h2 ls H locs X hL hW hS
  have he : Int32.ofInt x >>> (Int32.ofInt y &&& 31) = Int32.ofInt (zshr x y) := by unfold zshr; rw [zr_back]
  refine lv_ishr hc.1 hc.2.1 hd ?_
  rw [he]
  exact kk (zokC (zokT (zokT h1)) (zr_of _)) h2 ls H locs X hL hW hS
theorem zj_iushr (hc : zCx p s m args c cc nL own G) {x y : Int} (hd : decode cc pc = .ok (.iushr, 1)) (kk : zJ p l e R s m args below meth c G nL cells slots Q (pc + 1) L (.inl (zushr x y) :: st) M) : zJ p l e R s m args below meth c G nL cells slots Q pc L (.inl y :: .inl x :: st) M := by
  intro h1 h2 ls H locs X hL hW hS
  refine lv_iushr hc.1 hc.2.1 hd (v := Int32.ofInt (zushr x y)) (by unfold zushr; rw [zr_back]) ?_
  exact kk (zokC (zokT (zokT h1)) (zr_of _)) h2 ls H locs X hL hW hS
theorem zj_ineg (hc : zCx p s m args c cc nL own G) {x : Int} (hd : decode cc pc = .ok (.ineg, 1)) (hr : inR (-x)) (kk : zJ p l e R s m args below meth c G nL cells slots Q (pc + 1) L (.inl (-x) :: st) M) : zJ p l e R s m args below meth c G nL cells slots Q pc L (.inl x :: st) M := by
  intro h1 h2 ls H locs X hL hW hS
  have he : -Int32.ofInt x = Int32.ofInt (-x) := by rw [← Int32.ofInt_neg]
  refine lv_ineg hc.1 hc.2.1 hd ?_
  rw [he]
  exact kk (zokC (zokT h1) hr) h2 ls H locs X hL hW hS
theorem zj_idiv (hc : zCx p s m args c cc nL own G) {x y : Int} (hd : decode cc pc = .ok (.idiv, 1)) (hp : 0 < y) (kk : zJ p l e R s m args below meth c G nL cells slots Q (pc + 1) L (.inl (x.tdiv y) :: st) M) : zJ p l e R s m args below meth c G nL cells slots Q pc L (.inl y :: .inl x :: st) M := by
  intro h1 h2 ls H locs X hL hW hS
  have hy : inR y := zokH h1
  have hx : inR x := zokH (zokT h1)
  refine lv_idiv hc.1 hc.2.1 hd (by rw [zr_0, zr_eq hy zr_inR0]; omega) ?_
  rw [zr_div hx hy hp]
  exact kk (zokC (zokT (zokT h1)) (zr_divR hx hp)) h2 ls H locs X hL hW hS
theorem zj_irem (hc : zCx p s m args c cc nL own G) {x y : Int} (hd : decode cc pc = .ok (.irem, 1)) (hp : 0 < y) (kk : zJ p l e R s m args below meth c G nL cells slots Q (pc + 1) L (.inl (x.tmod y) :: st) M) : zJ p l e R s m args below meth c G nL cells slots Q pc L (.inl y :: .inl x :: st) M := by
  intro h1 h2 ls H locs X hL hW hS
  have hy : inR y := zokH h1
  have hx : inR x := zokH (zokT h1)
  refine lv_irem hc.1 hc.2.1 hd (by rw [zr_0, zr_eq hy zr_inR0]; omega) ?_
  rw [zr_rem hx hy hp]
  exact kk (zokC (zokT (zokT h1)) (zr_remR hx hy hp)) h2 ls H locs X hL hW hS
theorem zj_dup (hc : zCx p s m args c cc nL own G) {v : zV} (hd : decode cc pc = .ok (.dup, 1)) (kk : zJ p l e R s m args below meth c G nL cells slots Q (pc + 1) L (v :: v :: st) M) : zJ p l e R s m args below meth c G nL cells slots Q pc L (v :: st) M := by
  intro h1 h2 ls H locs X hL hW hS
  exact lv_dup hc.1 hc.2.1 hd (zcat G v) (kk (zokC h1 (zokH h1)) h2 ls H locs X hL hW hS)
theorem zj_pop (hc : zCx p s m args c cc nL own G) {v : zV} (hd : decode cc pc = .ok (.pop, 1)) (kk : zJ p l e R s m args below meth c G nL cells slots Q (pc + 1) L st M) : zJ p l e R s m args below meth c G nL cells slots Q pc L (v :: st) M := by
  intro h1 h2 ls H locs X hL hW hS
  exact lv_pop hc.1 hc.2.1 hd (zcat G v) (kk (zokT h1) h2 ls H locs X hL hW hS)
theorem zj_dup2 (hc : zCx p s m args c cc nL own G) {v w : zV} (hd : decode cc pc = .ok (.dup2, 1)) (kk : zJ p l e R s m args below meth c G nL cells slots Q (pc + 1) L (v :: w :: v :: w :: st) M) : zJ p l e R s m args below meth c G nL cells slots Q pc L (v :: w :: st) M := by
  intro h1 h2 ls H locs X hL hW hS
  exact lv_dup2_11 hc.1 hc.2.1 hd (zcat G v) (zcat G w) (kk (zokC (zokC h1 (zokH (zokT h1))) (zokH h1)) h2 ls H locs X hL hW hS)
theorem zj_goto (hc : zCx p s m args c cc nL own G) {off : Int} {tgt : Nat} (hd : decode cc pc = .ok (.goto off, 3)) (ht : (pc : Int) + off = (tgt : Int)) (kk : zJ p l e R s m args below meth c G nL cells slots Q tgt L st M) : zJ p l e R s m args below meth c G nL cells slots Q pc L st M := by
  intro h1 h2 ls H locs X hL hW hS
  exact lv_goto hc.1 hc.2.1 hd ht (kk h1 h2 ls H locs X hL hW hS)
theorem zj_icmp_lt (hc : zCx p s m args c cc nL own G) {x y : Int} {off : Int} {tgt : Nat} (hd : decode cc pc = .ok (.if_icmp .lt off, 3)) (ht : (pc : Int) + off = (tgt : Int)) (kt : x < y → zJ p l e R s m args below meth c G nL cells slots Q tgt L st M) (kf : ¬ x < y → zJ p l e R s m args below meth c G nL cells slots Q (pc + 3) L st M) : zJ p l e R s m args below meth c G nL cells slots Q pc L (.inl y :: .inl x :: st) M := by
  intro h1 h2 ls H locs X hL hW hS
  have hy : inR y := zokH h1
  have hx : inR x := zokH (zokT h1)
  have h3 := zokT (zokT h1)
  exact lv_icmp_lt hc.1 hc.2.1 hd ht (fun h => kt ((zr_lt hx hy).mp h) h3 h2 ls H locs X hL hW hS) (fun h => kf (fun h9 => h ((zr_lt hx hy).mpr h9)) h3 h2 ls H locs X hL hW hS)
theorem zj_if_lt (hc : zCx p s m args c cc nL own G) {x : Int} {off : Int} {tgt : Nat} (hd : decode cc pc = .ok (.ifCond .lt off, 3)) (ht : (pc : Int) + off = (tgt : Int)) (kt : x < 0 → zJ p l e R s m args below meth c G nL cells slots Q tgt L st M) (kf : ¬ x < 0 → zJ p l e R s m args below meth c G nL cells slots Q (pc + 3) L st M) : zJ p l e R s m args below meth c G nL cells slots Q pc L (.inl x :: st) M := by
  intro h1 h2 ls H locs X hL hW hS
  have hx : inR x := zokH h1
  have hy : inR 0 := zr_inR0
  have h3 := zokT h1
  exact lv_if_lt hc.1 hc.2.1 hd ht (fun h => kt ((zr_lt hx hy).mp h) h3 h2 ls H locs X hL hW hS) (fun h => kf (fun h9 => h ((zr_lt hx hy).mpr h9)) h3 h2 ls H locs X hL hW hS)
theorem zj_icmp_ge (hc : zCx p s m args c cc nL own G) {x y : Int} {off : Int} {tgt : Nat} (hd : decode cc pc = .ok (.if_icmp .ge off, 3)) (ht : (pc : Int) + off = (tgt : Int)) (kt : y ≤ x → zJ p l e R s m args below meth c G nL cells slots Q tgt L st M) (kf : ¬ y ≤ x → zJ p l e R s m args below meth c G nL cells slots Q (pc + 3) L st M) : zJ p l e R s m args below meth c G nL cells slots Q pc L (.inl y :: .inl x :: st) M := by
  intro h1 h2 ls H locs X hL hW hS
  have hy : inR y := zokH h1
  have hx : inR x := zokH (zokT h1)
  have h3 := zokT (zokT h1)
  exact lv_icmp_ge hc.1 hc.2.1 hd ht (fun h => kt ((zr_le hy hx).mp h) h3 h2 ls H locs X hL hW hS) (fun h => kf (fun h9 => h ((zr_le hy hx).mpr h9)) h3 h2 ls H locs X hL hW hS)
theorem zj_if_ge (hc : zCx p s m args c cc nL own G) {x : Int} {off : Int} {tgt : Nat} (hd : decode cc pc = .ok (.ifCond .ge off, 3)) (ht : (pc : Int) + off = (tgt : Int)) (kt : 0 ≤ x → zJ p l e R s m args below meth c G nL cells slots Q tgt L st M) (kf : ¬ 0 ≤ x → zJ p l e R s m args below meth c G nL cells slots Q (pc + 3) L st M) : zJ p l e R s m args below meth c G nL cells slots Q pc L (.inl x :: st) M := by
  intro h1 h2 ls H locs X hL hW hS
  have hx : inR x := zokH h1
  have hy : inR 0 := zr_inR0
  have h3 := zokT h1
  exact lv_if_ge hc.1 hc.2.1 hd ht (fun h => kt ((zr_le hy hx).mp h) h3 h2 ls H locs X hL hW hS) (fun h => kf (fun h9 => h ((zr_le hy hx).mpr h9)) h3 h2 ls H locs X hL hW hS)
theorem zj_icmp_gt (hc : zCx p s m args c cc nL own G) {x y : Int} {off : Int} {tgt : Nat} (hd : decode cc pc = .ok (.if_icmp .gt off, 3)) (ht : (pc : Int) + off = (tgt : Int)) (kt : y < x → zJ p l e R s m args below meth c G nL cells slots Q tgt L st M) (kf : ¬ y < x → zJ p l e R s m args below meth c G nL cells slots Q (pc + 3) L st M) : zJ p l e R s m args below meth c G nL cells slots Q pc L (.inl y :: .inl x :: st) M := by
  intro h1 h2 ls H locs X hL hW hS
  have hy : inR y := zokH h1
  have hx : inR x := zokH (zokT h1)
  have h3 := zokT (zokT h1)
  exact lv_icmp_gt hc.1 hc.2.1 hd ht (fun h => kt ((zr_lt hy hx).mp h) h3 h2 ls H locs X hL hW hS) (fun h => kf (fun h9 => h ((zr_lt hy hx).mpr h9)) h3 h2 ls H locs X hL hW hS)
theorem zj_if_gt (hc : zCx p s m args c cc nL own G) {x : Int} {off : Int} {tgt : Nat} (hd : decode cc pc = .ok (.ifCond .gt off, 3)) (ht : (pc : Int) + off = (tgt : Int)) (kt : 0 < x → zJ p l e R s m args below meth c G nL cells slots Q tgt L st M) (kf : ¬ 0 < x → zJ p l e R s m args below meth c G nL cells slots Q (pc + 3) L st M) : zJ p l e R s m args below meth c G nL cells slots Q pc L (.inl x :: st) M := by
  intro h1 h2 ls H locs X hL hW hS
  have hx : inR x := zokH h1
  have hy : inR 0 := zr_inR0
  have h3 := zokT h1
  exact lv_if_gt hc.1 hc.2.1 hd ht (fun h => kt ((zr_lt hy hx).mp h) h3 h2 ls H locs X hL hW hS) (fun h => kf (fun h9 => h ((zr_lt hy hx).mpr h9)) h3 h2 ls H locs X hL hW hS)
theorem zj_icmp_le (hc : zCx p s m args c cc nL own G) {x y : Int} {off : Int} {tgt : Nat} (hd : decode cc pc = .ok (.if_icmp .le off, 3)) (ht : (pc : Int) + off = (tgt : Int)) (kt : x ≤ y → zJ p l e R s m args below meth c G nL cells slots Q tgt L st M) (kf : ¬ x ≤ y → zJ p l e R s m args below meth c G nL cells slots Q (pc + 3) L st M) : zJ p l e R s m args below meth c G nL cells slots Q pc L (.inl y :: .inl x :: st) M := by
  intro h1 h2 ls H locs X hL hW hS
  have hy : inR y := zokH h1
  have hx : inR x := zokH (zokT h1)
  have h3 := zokT (zokT h1)
  exact lv_icmp_le hc.1 hc.2.1 hd ht (fun h => kt ((zr_le hx hy).mp h) h3 h2 ls H locs X hL hW hS) (fun h => kf (fun h9 => h ((zr_le hx hy).mpr h9)) h3 h2 ls H locs X hL hW hS)
theorem zj_if_le (hc : zCx p s m args c cc nL own G) {x : Int} {off : Int} {tgt : Nat} (hd : decode cc pc = .ok (.ifCond .le off, 3)) (ht : (pc : Int) + off = (tgt : Int)) (kt : x ≤ 0 → zJ p l e R s m args below meth c G nL cells slots Q tgt L st M) (kf : ¬ x ≤ 0 → zJ p l e R s m args below meth c G nL cells slots Q (pc + 3) L st M) : zJ p l e R s m args below meth c G nL cells slots Q pc L (.inl x :: st) M := by
  intro h1 h2 ls H locs X hL hW hS
  have hx : inR x := zokH h1
  have hy : inR 0 := zr_inR0
  have h3 := zokT h1
  exact lv_if_le hc.1 hc.2.1 hd ht (fun h => kt ((zr_le hx hy).mp h) h3 h2 ls H locs X hL hW hS) (fun h => kf (fun h9 => h ((zr_le hx hy).mpr h9)) h3 h2 ls H locs X hL hW hS)
theorem zj_icmp_eq (hc : zCx p s m args c cc nL own G) {x y : Int} {off : Int} {tgt : Nat} (hd : decode cc pc = .ok (.if_icmp .eq off, 3)) (ht : (pc : Int) + off = (tgt : Int)) (kt : x = y → zJ p l e R s m args below meth c G nL cells slots Q tgt L st M) (kf : ¬ x = y → zJ p l e R s m args below meth c G nL cells slots Q (pc + 3) L st M) : zJ p l e R s m args below meth c G nL cells slots Q pc L (.inl y :: .inl x :: st) M := by
  intro h1 h2 ls H locs X hL hW hS
  have hy : inR y := zokH h1
  have hx : inR x := zokH (zokT h1)
  have h3 := zokT (zokT h1)
  exact lv_icmp_eq hc.1 hc.2.1 hd ht (fun h => kt ((zr_eq hx hy).mp h) h3 h2 ls H locs X hL hW hS) (fun h => kf (fun h9 => h ((zr_eq hx hy).mpr h9)) h3 h2 ls H locs X hL hW hS)
theorem zj_if_eq (hc : zCx p s m args c cc nL own G) {x : Int} {off : Int} {tgt : Nat} (hd : decode cc pc = .ok (.ifCond .eq off, 3)) (ht : (pc : Int) + off = (tgt : Int)) (kt : x = 0 → zJ p l e R s m args below meth c G nL cells slots Q tgt L st M) (kf : ¬ x = 0 → zJ p l e R s m args below meth c G nL cells slots Q (pc + 3) L st M) : zJ p l e R s m args below meth c G nL cells slots Q pc L (.inl x :: st) M := by
  intro h1 h2 ls H locs X hL hW hS
  have hx : inR x := zokH h1
  have hy : inR 0 := zr_inR0
  have h3 := zokT h1
  exact lv_if_eq hc.1 hc.2.1 hd ht (fun h => kt ((zr_eq hx hy).mp h) h3 h2 ls H locs X hL hW hS) (fun h => kf (fun h9 => h ((zr_eq hx hy).mpr h9)) h3 h2 ls H locs X hL hW hS)
theorem zj_icmp_ne (hc : zCx p s m args c cc nL own G) {x y : Int} {off : Int} {tgt : Nat} (hd : decode cc pc = .ok (.if_icmp .ne off, 3)) (ht : (pc : Int) + off = (tgt : Int)) (kt : ¬ x = y → zJ p l e R s m args below meth c G nL cells slots Q tgt L st M) (kf : x = y → zJ p l e R s m args below meth c G nL cells slots Q (pc + 3) L st M) : zJ p l e R s m args below meth c G nL cells slots Q pc L (.inl y :: .inl x :: st) M := by
  intro h1 h2 ls H locs X hL hW hS
  have hy : inR y := zokH h1
  have hx : inR x := zokH (zokT h1)
  have h3 := zokT (zokT h1)
  exact lv_icmp_ne hc.1 hc.2.1 hd ht (fun h => kt (fun h9 => h ((zr_eq hx hy).mpr h9)) h3 h2 ls H locs X hL hW hS) (fun h => kf ((zr_eq hx hy).mp h) h3 h2 ls H locs X hL hW hS)
theorem zj_if_ne (hc : zCx p s m args c cc nL own G) {x : Int} {off : Int} {tgt : Nat} (hd : decode cc pc = .ok (.ifCond .ne off, 3)) (ht : (pc : Int) + off = (tgt : Int)) (kt : ¬ x = 0 → zJ p l e R s m args below meth c G nL cells slots Q tgt L st M) (kf : x = 0 → zJ p l e R s m args below meth c G nL cells slots Q (pc + 3) L st M) : zJ p l e R s m args below meth c G nL cells slots Q pc L (.inl x :: st) M := by
  intro h1 h2 ls H locs X hL hW hS
  have hx : inR x := zokH h1
  have hy : inR 0 := zr_inR0
  have h3 := zokT h1
  exact lv_if_ne hc.1 hc.2.1 hd ht (fun h => kt (fun h9 => h ((zr_eq hx hy).mpr h9)) h3 h2 ls H locs X hL hW hS) (fun h => kf ((zr_eq hx hy).mp h) h3 h2 ls H locs X hL hW hS)
theorem zj_tableOut (hc : zCx p s m args c cc nL own G) {dflt lo hi : Int} {offs : Array Int} {len : Nat} {x : Int} {tgt : Nat} (hd : decode cc pc = .ok (.tableswitch dflt lo hi offs, len)) (h : x < lo ∨ hi < x) (ht : (pc : Int) + dflt = (tgt : Int)) (kk : zJ p l e R s m args below meth c G nL cells slots Q tgt L st M) : zJ p l e R s m args below meth c G nL cells slots Q pc L (.inl x :: st) M := by
  intro h1 h2 ls H locs X hL hW hS
  have hx : inR x := zokH h1
  exact lv_tableOut hc.1 hc.2.1 hd (by rw [zr_toInt hx]; exact h) ht (kk (zokT h1) h2 ls H locs X hL hW hS)
theorem zj_tableIn (hc : zCx p s m args c cc nL own G) {dflt lo hi : Int} {offs : Array Int} {len : Nat} {x off : Int} {tgt : Nat} (hd : decode cc pc = .ok (.tableswitch dflt lo hi offs, len)) (h : lo ≤ x ∧ x ≤ hi) (ho : offs[(x - lo).toNat]? = some off) (ht : (pc : Int) + off = (tgt : Int)) (kk : zJ p l e R s m args below meth c G nL cells slots Q tgt L st M) : zJ p l e R s m args below meth c G nL cells slots Q pc L (.inl x :: st) M := by
  intro h1 h2 ls H locs X hL hW hS
  have hx : inR x := zokH h1
  exact lv_tableIn hc.1 hc.2.1 hd (by rw [zr_toInt hx]; omega) (by rw [zr_toInt hx]; omega) (by rw [zr_toInt hx]; exact ho) ht (kk (zokT h1) h2 ls H locs X hL hW hS)
-- arrays
theorem zj_iald (hc : zCx p s m args c cc nL own G) {id : Nat} {i : Int} (hd : decode cc pc = .ok (.iaload, 1)) (hi : 0 ≤ i ∧ i < alen id) (kk : zJ p l e R s m args below meth c G nL cells slots Q (pc + 1) L (.inl (M.2 id i) :: st) M) : zJ p l e R s m args below meth c G nL cells slots Q pc L (.inl i :: .inr id :: st) M := by
  intro h1 h2 ls H locs X hL hW hS
  obtain ⟨n, hn, hl⟩ := zlen_mem hi
  obtain ⟨k, hk, -⟩ := zarr_at G M X hn
  have hx : inR i := zokH h1
  refine va_iald hc.1 hc.2.1 hc.2.2.2.2.2.1.1 hW.1 k 0 hk rfl (zr_in hx hi.1 (by rw [← hl]; exact hi.2)) hd ?_
  rw [zr_cl hx, Int.toNat_of_nonneg hi.1]
  exact kk (zokC (zokT (zokT h1)) (hW.2.2.2.2 id i)) h2 ls H locs X hL hW hS
theorem zj_iast (hc : zCx p s m args c cc nL own G) {id : Nat} {i v : Int} (hd : decode cc pc = .ok (.iastore, 1)) (hi : 0 ≤ i ∧ i < alen id) (kk : zJ p l e R s m args below meth c G nL cells slots Q (pc + 1) L st (setA M id i v)) : zJ p l e R s m args below meth c G nL cells slots Q pc L (.inl v :: .inl i :: .inr id :: st) M := by
  intro h1 h2 ls H locs X hL hW hS
  obtain ⟨n, hn, hl⟩ := zlen_mem hi
  obtain ⟨k, hk, hset⟩ := zarr_at G M X hn
  have hv : inR v := zokH h1
  have hx : inR i := zokH (zokT h1)
  refine va_iast hc.1 hc.2.1 hc.2.2.2.2.2.1.1 hW.1 hW.2.1 hS k 0 hk rfl (zr_in hx hi.1 (by rw [← hl]; exact hi.2)) hd (fun H1 locs1 hP hD hS1 => ?_)
  have he : upd (fun j : Nat => Int32.ofInt (M.2 id (j : Int))) (Int32.ofInt i).toNatClampNeg (Int32.ofInt v) = fun j : Nat => Int32.ofInt (upI (M.2 id) i v (j : Int)) := by
    funext j
    rw [zr_cl hx]
    unfold upd upI
    by_cases hj : (j : Int) = i
    · rw [if_pos hj, if_pos (by omega)]
    · rw [if_neg hj, if_neg (by omega)]
  rw [he, hset] at hP hD
  exact kk (zokT (zokT (zokT h1))) h2 ls H1 locs1 X hL ⟨hP, hD, zMo_put hW.2.2.1 (Nat.lt_trans (zlen_small _ hn).1 (by decide)) _, zRM_put hW.2.2.2 (zRM_up hW.2.2.2 hv)⟩ hS1
theorem zj_alen (hc : zCx p s m args c cc nL own G) {id : Nat} (hd : decode cc pc = .ok (.arraylength, 1)) (hi : 0 < alen id) (kk : zJ p l e R s m args below meth c G nL cells slots Q (pc + 1) L (.inl (alen id) :: st) M) : zJ p l e R s m args below meth c G nL cells slots Q pc L (.inr id :: st) M := by
  intro h1 h2 ls H locs X hL hW hS
  obtain ⟨n, hn, hl⟩ := zlen_mem (i := 0) ⟨Int.le_refl 0, hi⟩
  obtain ⟨k, hk, -⟩ := zarr_at G M X hn
  have hs := (zlen_small _ hn).2
  refine va_alen hc.1 hc.2.1 hc.2.2.2.2.2.1.1 hW.1 k 0 hk (ty := .int) rfl (v := Int32.ofInt (alen id)) (by rw [hl]; rfl) hd ?_
  exact kk (zokC (zokT h1) (by rw [hl]; exact ⟨by omega, by dsimp only at hs; omega⟩)) h2 ls H locs X hL hW hS
def cpA (f g : Int → Int) (sp dp n : Int) : Int → Int := fun j => if dp ≤ j ∧ j < dp + n then f (sp + (j - dp)) else g j
theorem zj_copy (hc : zCx p s m args c cc nL own G) {index a b : Nat} {sp dp n : Int} (hd : decode cc pc = .ok (.invokestatic index, 3)) (hlink : Cond.methodLink own index arraycopyName ∈ lw_ws) (hnat : Cond.native arraycopyName ∈ lw_ws) (hstat : Cond.static arraycopyName ∈ lw_ws) (hini : Cond.initialized "java/lang/System" ∈ lw_ws) (hi : (0 ≤ sp ∧ 0 ≤ dp ∧ 0 ≤ n) ∧ sp + n ≤ alen a ∧ dp + n ≤ alen b ∧ 0 < alen a ∧ 0 < alen b) (hfr : 1 ≤ R.frames) (hlo : (st.length) + (nativeFrameWords "java/lang/System" "arraycopy" 5 + 11) ≤ R.locals)
    (kk : zJ p l e R s m args below meth c G nL cells slots Q (pc + 3) L st (putA M b (cpA (M.2 a) (M.2 b) sp dp n))) : zJ p l e R s m args below meth c G nL cells slots Q pc L (.inl n :: .inl dp :: .inr b :: .inl sp :: .inr a :: st) M := by
  intro h1 h2 ls H locs X hL hW hS
  obtain ⟨⟨i1, i2, i3⟩, i4, i5, i6, i7⟩ := hi
  obtain ⟨na, hna, hla⟩ := zlen_mem (i := 0) ⟨Int.le_refl 0, i6⟩
  obtain ⟨nb, hnb, hlb⟩ := zlen_mem (i := 0) ⟨Int.le_refl 0, i7⟩
  obtain ⟨ka, hka, -⟩ := zarr_at G M X hna
  obtain ⟨kb, hkb, hset⟩ := zarr_at G M X hnb
  have r1 : inR n := zokH h1
  have r2 : inR dp := zokH (zokT h1)
  have r3 : inR sp := zokH (zokT (zokT (zokT h1)))
  have hcat : ((st.map (zmv G)).map fun v => v.category).sum = st.length := by
    clear h1 kk hlo
    induction st with
    | nil => rfl
    | cons v t ih => simp only [List.map_cons, List.sum_cons, zcat, ih, List.length_cons]; omega
  refine va_copyi (ty := .int) hc.1 hc.2.1 (by rw [hc.2.2.1, hL.1]) hc.2.2.2.1 (hc.2.2.2.2.1 _ hlink) (hc.2.2.2.2.1 _ hnat) (hc.2.2.2.2.1 _ hstat) (hc.2.2.2.2.1 _ hini) hc.2.2.2.2.2.1.1 hW.1 hW.2.1 hS ka kb 0 0 hka hkb rfl rfl rfl (by rw [zr_0, zr_lt r3 zr_inR0]; omega) (by rw [zr_0, zr_lt r2 zr_inR0]; omega) (by rw [zr_0, zr_lt r1 zr_inR0]; omega) (by rw [zr_cl r3, zr_cl r1]; omega) (by rw [zr_cl r2, zr_cl r1]; omega) (fun _ _ => rfl) hfr (by rw [hcat]; exact hlo) hd (fun H1 locs1 hP hD hS1 => ?_)
  have he : va_cpy (fun j : Nat => Int32.ofInt (M.2 a (j : Int))) (fun j : Nat => Int32.ofInt (M.2 b (j : Int))) (Int32.ofInt sp).toNatClampNeg (Int32.ofInt dp).toNatClampNeg (Int32.ofInt n).toNatClampNeg = fun j : Nat => Int32.ofInt (cpA (M.2 a) (M.2 b) sp dp n (j : Int)) := by
    funext j
    rw [zr_cl r1, zr_cl r2, zr_cl r3]
    unfold va_cpy cpA
    by_cases hj : dp.toNat ≤ j ∧ j < dp.toNat + n.toNat
    · rw [if_pos hj, if_pos (by omega)]
      dsimp only
      have e9 : ((sp.toNat + (j - dp.toNat) : Nat) : Int) = sp + ((j : Int) - dp) := by omega
      rw [e9]
    · rw [if_neg hj, if_neg (by omega)]
  rw [he, hset] at hP hD
  exact kk (zokT (zokT (zokT (zokT (zokT h1))))) h2 ls H1 locs1 X hL ⟨hP, hD, zMo_put hW.2.2.1 (Nat.lt_trans (zlen_small _ hnb).1 (by decide)) _, zRM_put hW.2.2.2 (fun i => by unfold cpA; split; exact hW.2.2.2.2 _ _; exact hW.2.2.2.2 _ _)⟩ hS1
-- fields
theorem zj_get (hc : zCx p s m args c cc nL own G) {C : String} {T : u_T} {N ci index k o0 a : Nat} {fs : List Value} {v : zV} (hin : ∀ w ∈ u_ws C T N, w ∈ lw_ws) (hcl : vwCl[ci]? = some (C, T, N)) (hob : (zobjs G M)[o0]? = some (zad G a, .inr (ci, fs))) (hk : k < N) (hv : fs[k]? = some (zmv G v)) (hok : zRM M → zok v) (hlink : Cond.fieldLink own index (T k).1 (T k).2.1 (T k).2.2.1 ∈ lw_ws) (hd : decode cc pc = .ok (.getfield index, 3)) (kk : zJ p l e R s m args below meth c G nL cells slots Q (pc + 3) L (v :: st) M) : zJ p l e R s m args below meth c G nL cells slots Q pc L (.inr a :: st) M := by
  intro h1 h2 ls H locs X hL hW hS
  have hlt : o0 < (zobjs G M).length := (List.getElem?_eq_some_iff.mp hob).1
  refine va_get (D := G.1) (ci := ci) (C := C) (T := T) (N := N) hc.1 hc.2.1 hc.2.2.2.2.1 hin hc.2.2.2.1 hc.2.2.2.2.2.1.1 hW.1 o0 (by unfold zcl; rw [List.getElem?_append_left hlt]; exact hob) hcl k hk (hc.2.2.2.2.1 _ hlink) (fun _ h9 => h9) hv hd ?_
  exact kk (zokC (zokT h1) (hok hW.2.2.2)) h2 ls H locs X hL hW hS
theorem zj_put (hc : zCx p s m args c cc nL own G) {C : String} {T : u_T} {N ci index k o0 a j : Nat} {fs : List Value} {x : Int} {ty0 : Nat → FieldType} (hty : ∀ k, k < N → parseFieldDescriptor (T k).2.2.1 = some (ty0 k)) (hnm : ∀ a, a < N → ∀ b, b < N → a ≠ b → (T a).2.1 ≠ (T b).2.1) (hin : ∀ w ∈ u_ws C T N, w ∈ lw_ws) (hcl : vwCl[ci]? = some (C, T, N)) (hob : (zobjs G M)[o0]? = some (zad G a, .inr (ci, fs))) (hset : (zobjs G M).set o0 (zad G a, .inr (ci, fs.set k (.int (Int32.ofInt x)))) = zobjs G (setS M j x)) (hj : j < 1024) (hk : k < N) (hl : k < fs.length) (hlink : Cond.fieldLink own index (T k).1 (T k).2.1 (T k).2.2.1 ∈ lw_ws) (hfin : (T k).2.2.2 = false) {ty : FieldType} (hdesc : parseFieldDescriptor (T k).2.2.1 = some ty) (hn : narrow ty (.int (Int32.ofInt x)) = .int (Int32.ofInt x)) (hfit : fits ty (.int (Int32.ofInt x)) = true) (hd : decode cc pc = .ok (.putfield index, 3)) (kk : zJ p l e R s m args below meth c G nL cells slots Q (pc + 3) L st (setS M j x)) : zJ p l e R s m args below meth c G nL cells slots Q pc L (.inl x :: .inr a :: st) M := by
  intro h1 h2 ls H locs X hL hW hS
  have hlt : o0 < (zobjs G M).length := (List.getElem?_eq_some_iff.mp hob).1
  have hx : inR x := zokH h1
  refine va_put (D := G.1) (ci := ci) (C := C) (T := T) (N := N) (ty := ty) hc.1 hc.2.1 hc.2.2.2.2.1 hin ty0 hty hnm hc.2.2.2.1 hc.2.2.2.2.2.1.1 hW.1 hW.2.1 hS o0 (by unfold zcl; rw [List.getElem?_append_left hlt]; exact hob) hcl k hk (hc.2.2.2.2.1 _ hlink) (fun _ h9 => h9) hfin hdesc hn hfit hl hd (fun H1 locs1 hP hD hS1 => ?_)
  have he : (zcl G M X).set o0 (zad G a, .inr (ci, fs.set k (.int (Int32.ofInt x)))) = zcl G (setS M j x) X := by
    unfold zcl
    rw [List.set_append_left _ _ hlt, hset]
    rfl
  have hP : va_P G.1 vwCl ((zcl G M X).set o0 (zad G a, .inr (ci, fs.set k (.int (Int32.ofInt x))))) H1 := hP
  have hD : va_D (zA G) ((zcl G M X).set o0 (zad G a, .inr (ci, fs.set k (.int (Int32.ofInt x))))) := hD
  rw [he] at hP hD
  exact kk (zokT (zokT h1)) h2 ls H1 locs1 X hL ⟨hP, hD, zMo_set hW.2.2.1 hj _, zRM_set hW.2.2.2 hx⟩ hS1
end zRules
end
section
def zPre (G : zG) (M : zMem) (As : List zV) (U : State) : Prop := zbs G ≤ U.heap.size ∧ (∃ X, zWd G M X U.heap) ∧ zKK G U ∧ ∀ v ∈ As, zok v
def zPo (G : zG) (M : zMem) (t : State) : Prop := ∃ X, zWd G M X t.heap
abbrev zQi (G : zG) (Qr : Int → zMem → Prop) : Array Value → State → Outcome → State → Prop := va_Qi (fun (r : Int32) (M' : zMem) => Qr r.toInt M') (zPo G) (zA G)
abbrev zQv (G : zG) (Qr : zMem → Prop) : Array Value → State → Outcome → State → Prop := va_Qv (fun (M' : zMem) => Qr M') (zPo G) (zA G)
abbrev zRoom (f lo mc ms : Nat) : Room := { frames := f, cells := mc, slots := ms, locals := lo }
def zMetI (l : Launch) (y : MethodName) (cc : ByteArray) (maxL : Nat) (ret : Option FieldType) (f lo mc ms : Nat) (G : zG) (As : List zV) (M : zMem) (Qr : Int → zMem → Prop) : Prop :=
  Met l y (Cond.code y cc maxL ret :: lw_ws) (zRoom f lo mc ms) (va_Pc (As.map (zmv G)) (zPre G M As)) (zQi G Qr) mc ms (zA G)
def zMetV (l : Launch) (y : MethodName) (cc : ByteArray) (maxL : Nat) (ret : Option FieldType) (f lo mc ms : Nat) (G : zG) (As : List zV) (M : zMem) (Qr : zMem → Prop) : Prop :=
  Met l y (Cond.code y cc maxL ret :: lw_ws) (zRoom f lo mc ms) (va_Pc (As.map (zmv G)) (zPre G M As)) (zQv G Qr) mc ms (zA G)
theorem zlg_len (G : zG) : ∀ As : List zV, (lg_sl (As.map (zmv G))).length = As.length
  | [] => rfl
  | v :: t => by
    have h := zlg_len G t
    cases v <;> simp [lg_sl, zmv, Value.category] at h ⊢ <;> omega
theorem zlv_args (G : zG) : ∀ (As : List zV) (k j : Nat) (v : zV), As[j]? = some v → (k + j, zmv G v) ∈ lv_args k (As.map (zmv G))
  | [], _, _, _, h => by simp at h
  | w :: t, k, 0, v, h => by
    have : w = v := by simpa using h
    subst this
    exact List.mem_cons_self
  | w :: t, k, j + 1, v, h => by
    have h2 := zlv_args G t (k + 1) j v (by simpa using h)
    unfold lv_args
    rw [List.map_cons]
    dsimp only
    rw [zcat, if_neg (by decide)]
    refine List.mem_cons_of_mem _ ?_
    have : k + (j + 1) = k + 1 + j := by omega
    rw [this]
    exact h2
theorem zentry (G : zG) (As : List zV) {n : Nat} (h : As.length ≤ n) {L : List (Option zV)} (hL : As.map some ++ List.replicate (n - As.length) none = L) : lv_has ((lg_sl (As.map (zmv G)) ++ List.replicate (n - (lg_sl (As.map (zmv G))).length) Slot.unset).toArray) n (zpl G 0 L) := by
  have h0 := lv_entry (As.map (zmv G)) (n := n) (by rw [zlg_len]; exact h)
  refine ⟨h0.1, h0.2.1, fun q hq => h0.2.2 q ?_⟩
  obtain ⟨j, v, h1, h2, h3⟩ := zpl_mem.mp hq
  rw [← hL] at h2
  have h4 : As[j]? = some v := by
    rcases Nat.lt_or_ge j As.length with hj | hj
    · rw [List.getElem?_append_left (by rw [List.length_map]; exact hj), List.getElem?_map] at h2
      cases h5 : As[j]? with
      | none => rw [h5] at h2; cases h2
      | some w => rw [h5] at h2; cases h2; rfl
    · rw [List.getElem?_append_right (by rw [List.length_map]; exact hj)] at h2
      obtain ⟨h7, h6⟩ := List.getElem?_eq_some_iff.mp h2
      rw [List.getElem_replicate] at h6
      cases h6
  have h5 := zlv_args G As 0 j v h4
  rw [← h1, ← h3] at h5
  exact h5
theorem zok0 {n : Nat} {As : List zV} {L : List (Option zV)} (hL : As.map some ++ List.replicate (n - As.length) none = L) (h : ∀ v ∈ As, zok v) : ∀ v, some v ∈ L → zok v := by
  intro v hv
  rw [← hL, List.mem_append, List.mem_map] at hv
  rcases hv with ⟨w, h1, h2⟩ | h3
  · cases h2; exact h v h1
  · have := List.eq_of_mem_replicate h3; cases this
theorem zmetI {l : Launch} {y : MethodName} {cc : ByteArray} {maxL : Nat} {ret : Option FieldType} {f lo mc ms : Nat} {G : zG} {As : List zV} {M : zMem} {Qr : Int → zMem → Prop} (hy : plainName y.cls = true) (hlen : As.length ≤ maxL) (L : List (Option zV)) (hL : As.map some ++ List.replicate (maxL - As.length) none = L)
    (body : ∀ (p : Program) (e : Env) (s : State) (m : MethodId) (args : Array Value) (below : List Frame) (meth : Method) (c : Code), zCx p s m args c cc maxL y.cls G → meth.sig.returnType = ret → meth.locks = false → zJ p l e (zRoom f lo mc ms) s m args below meth c G maxL 0 0 (MQ below (zQi G Qr) args s mc ms (zA G)) 0 L [] M) : zMetI l y cc maxL ret f lo mc ms G As M Qr := by
  refine Met.ofW (cc := cc) (maxL := maxL) (ret := ret) hy rfl ?_
  intro p e s m args below meth c s₁ B hml hv
  obtain ⟨rfl, hbs, ⟨X, hW⟩, hK, hok⟩ := hv
  have hts := atoms_spec (ws := Cond.code y cc maxL ret :: lw_ws) B.pre
  have hown : s.vm.findClass y.cls = some m.cls := findClass_of_methodNamed B.named
  rw [lg_entry_eq]
  exact body p e s m _ below meth c ⟨B.exec, B.bytes, hml, hown, fun w hw => hts w (List.mem_cons_of_mem _ hw), hK, hbs⟩ B.returns B.notSynchronized (fun v h => by cases h) (zok0 hL hok) _ s.heap [] X (zentry G As hlen hL) hW va_S.rf
theorem zmetV {l : Launch} {y : MethodName} {cc : ByteArray} {maxL : Nat} {ret : Option FieldType} {f lo mc ms : Nat} {G : zG} {As : List zV} {M : zMem} {Qr : zMem → Prop} (hy : plainName y.cls = true) (hlen : As.length ≤ maxL) (L : List (Option zV)) (hL : As.map some ++ List.replicate (maxL - As.length) none = L)
    (body : ∀ (p : Program) (e : Env) (s : State) (m : MethodId) (args : Array Value) (below : List Frame) (meth : Method) (c : Code), zCx p s m args c cc maxL y.cls G → meth.sig.returnType = ret → meth.locks = false → zJ p l e (zRoom f lo mc ms) s m args below meth c G maxL 0 0 (MQ below (zQv G Qr) args s mc ms (zA G)) 0 L [] M) : zMetV l y cc maxL ret f lo mc ms G As M Qr := by
  refine Met.ofW (cc := cc) (maxL := maxL) (ret := ret) hy rfl ?_
  intro p e s m args below meth c s₁ B hml hv
  obtain ⟨rfl, hbs, ⟨X, hW⟩, hK, hok⟩ := hv
  have hts := atoms_spec (ws := Cond.code y cc maxL ret :: lw_ws) B.pre
  have hown : s.vm.findClass y.cls = some m.cls := findClass_of_methodNamed B.named
  rw [lg_entry_eq]
  exact body p e s m _ below meth c ⟨B.exec, B.bytes, hml, hown, fun w hw => hts w (List.mem_cons_of_mem _ hw), hK, hbs⟩ B.returns B.notSynchronized (fun v h => by cases h) (zok0 hL hok) _ s.heap [] X (zentry G As hlen hL) hW va_S.rf
section zCalls
variable {p : Program} {l : Launch} {e : Env} {R : Room} {s : State} {m : MethodId} {args : Array Value} {below : List Frame} {meth : Method} {c : Code} {cells slots : Nat} {Q : State → Prop} {cc : ByteArray} {nL : Nat} {own : String} {G : zG} {pc : Nat} {L : List (Option zV)} {st : List zV} {M : zMem}
theorem zj_iret (hc : zCx p s m args c cc nL own G) (hr : meth.sig.returnType = some .int) (hlk : meth.locks = false) {mc ms : Nat} {Qr : Int → zMem → Prop} {x : Int} (hd : decode cc pc = .ok (.ireturn, 1)) (hcc : cells ≤ mc) (hss : slots ≤ ms) (hq : Qr x M) : zJ p l e R s m args below meth c G nL cells slots (MQ below (zQi G Qr) args s mc ms (zA G)) pc L [.inl x] M := by
  intro h1 h2 ls H locs X hL hW hS
  have hx : inR x := zokH h1
  refine W.widen hcc hss ?_
  exact W.iret (v := Int32.ofInt x) hc.1 hc.2.1 hr (fun t ht hW' => ⟨⟨_, M, rfl, by show Qr (Int32.ofInt x).toInt M; rw [zr_toInt hx]; exact hq, X, by rw [ht]; exact hW⟩, hS.F ht⟩) hS.2.2 hd hlk
theorem zj_zret (hc : zCx p s m args c cc nL own G) (hr : meth.sig.returnType = some .boolean) (hlk : meth.locks = false) {mc ms : Nat} {Qr : Int → zMem → Prop} {x : Int} (hd : decode cc pc = .ok (.ireturn, 1)) (hcc : cells ≤ mc) (hss : slots ≤ ms) (hb : x = 0 ∨ x = 1) (hq : Qr x M) : zJ p l e R s m args below meth c G nL cells slots (MQ below (zQi G Qr) args s mc ms (zA G)) pc L [.inl x] M := by
  intro h1 h2 ls H locs X hL hW hS
  have hx : inR x := zokH h1
  refine W.widen hcc hss ?_
  exact W.zret (v := Int32.ofInt x) hc.1 hc.2.1 hr (by rcases hb with rfl | rfl <;> decide) (fun t ht hW' => ⟨⟨_, M, rfl, by show Qr (Int32.ofInt x).toInt M; rw [zr_toInt hx]; exact hq, X, by rw [ht]; exact hW⟩, hS.F ht⟩) hS.2.2 hd hlk
theorem zj_vret (hc : zCx p s m args c cc nL own G) (hr : meth.sig.returnType = none) (hlk : meth.locks = false) {mc ms : Nat} {Qr : zMem → Prop} (hd : decode cc pc = .ok (.return_, 1)) (hcc : cells ≤ mc) (hss : slots ≤ ms) (hq : Qr M) : zJ p l e R s m args below meth c G nL cells slots (MQ below (zQv G Qr) args s mc ms (zA G)) pc L [] M := by
  intro h1 h2 ls H locs X hL hW hS
  refine W.widen hcc hss ?_
  exact W.vret hc.1 hc.2.1 hr (fun t ht hW' => ⟨⟨M, rfl, hq, X, by rw [ht]; exact hW⟩, hS.F ht⟩) hS.2.2 hd hlk
def zKs (y : MethodName) (cc : ByteArray) (maxL : Nat) (ret : Option FieldType) (n : Nat) : Prop := Cond.code y cc maxL ret ∈ lw_ws ∧ Cond.initialized y.cls ∈ lw_ws ∧ (y.cls ≠ "java/lang/invoke/MethodHandle" ∧ y.cls ≠ "java/lang/invoke/VarHandle" ∧ (parseMethodDescriptor y.desc).map (fun d => d.parameters.length) = some n)
def zRecv (G : zG) (M : zMem) (a : Nat) (C : String) : Prop := ∃ (o0 ci : Nat) (fs : List Value) (T : u_T) (N : Nat), (zobjs G M)[o0]? = some (zad G a, .inr (ci, fs)) ∧ vwCl[ci]? = some (C, T, N)
theorem zgood {y : MethodName} {cc : ByteArray} {maxL : Nat} {ret : Option FieldType} {n : Nat} (hk : zKs y cc maxL ret n) : GoodIn lw_ws (Cond.code y cc maxL ret :: lw_ws) := by
  have h0 : ∀ w ∈ lw_ws, w ∈ lw_ws ∧ ((w.onTables && w.keeps) = true ∨ ∃ ty, w = .arrayClass ty) := fun w hw => ⟨hw, good_of_word (List.mem_filter.mp hw).2⟩
  exact List.forall_mem_cons.mpr ⟨h0 _ hk.1, h0⟩
theorem zcallB (hc : zCx p s m args c cc nL own G) {y : MethodName} {cc' : ByteArray} {maxL : Nat} {ret : Option FieldType} {n f lo mc ms index : Nat} (hk : zKs y cc' maxL ret n) (hl : Cond.methodLink own index y ∈ lw_ws) (hroom : f + 1 ≤ R.frames ∧ 8 + (maxL + 11) + lo ≤ R.locals) : CallB R s args own index y cc' maxL ret (Cond.code y cc' maxL ret :: lw_ws) (zRoom f lo mc ms) mc ms n :=
  callB_of n hc.2.2.2.2.1 (zgood hk) rfl rfl rfl (hc.2.2.2.2.1 _ hk.2.1) (hc.2.2.2.2.1 _ hl) hk.2.2 hroom
theorem zblind (As : List zV) (M : zMem) : FrameBlind (va_Pc (As.map (zmv G)) (zPre G M As)) := by
  intro a U g mk q
  obtain ⟨q0, q1, q2, q3, q4⟩ := q
  exact ⟨q0, q1, q2, zKK_same (u := U) (U := U.calling g mk a) rfl q3, q4⟩
theorem zstk (As st : List zV) : (As.reverse ++ st).map (zmv G) = (As.map (zmv G)).reverse ++ st.map (zmv G) := by rw [List.map_append, List.map_reverse]
theorem zcats (G : zG) : ∀ st : List zV, ((st.map (zmv G)).map fun v => v.category).sum = st.length
  | [] => rfl
  | v :: t => by simp only [List.map_cons, List.sum_cons, zcat, zcats G t, List.length_cons]; omega
theorem zpre_of (hc : zCx p s m args c cc nL own G) {X : va_W} {H : Heap} {locs : List Loc} (hW : zWd G M X H) (hS : va_S (zA G) s.heap H locs) {As : List zV} (hok : ∀ v ∈ As, zok v) : ∀ U : State, U.heap = H → s.WarmedH U.vm → va_Pc (As.map (zmv G)) (zPre G M As) (As.map (zmv G)).toArray U := by
  intro U hU hWm
  exact ⟨rfl, by rw [hU]; exact Nat.le_trans hc.2.2.2.2.2.2 hS.1, ⟨X, by rw [hU]; exact hW⟩, zKK_warm hWm hc.2.2.2.2.2.1, hok⟩
theorem zokA {As st : List zV} (h1 : ∀ v ∈ As.reverse ++ st, zok v) : ∀ v ∈ As, zok v := fun v hv => h1 v (List.mem_append_left _ (List.mem_reverse.mpr hv))
theorem zokB {As st : List zV} (h1 : ∀ v ∈ As.reverse ++ st, zok v) : ∀ v ∈ st, zok v := fun v hv => h1 v (List.mem_append_right _ hv)
theorem zj_sti (hc : zCx p s m args c cc nL own G) {y : MethodName} {cc' : ByteArray} {maxL : Nat} {ret : Option FieldType} {n f lo mc ms index : Nat} {As : List zV} {Qr : Int → zMem → Prop} (hk : zKs y cc' maxL ret n) (hst : Cond.static y ∈ lw_ws) (hl : Cond.methodLink own index y ∈ lw_ws) (hM : zMetI l y cc' maxL ret f lo mc ms G As M Qr) (hn : As.length = n) (hroom : f + 1 ≤ R.frames ∧ 8 + (maxL + 11) + lo ≤ R.locals) (hcap : st.length ≤ 8) (hcs : cells + mc ≤ R.cells ∧ slots + ms ≤ R.slots) (hd : decode cc pc = .ok (.invokestatic index, 3)) {st0 : List zV} (hs0 : st0 = As.reverse ++ st)
    (kk : ∀ (r : Int) (M' : zMem), Qr r M' → zJ p l e R s m args below meth c G nL (cells + mc) (slots + ms) Q (pc + 3) L (.inl r :: st) M') : zJ p l e R s m args below meth c G nL cells slots Q pc L st0 M := by
  intro h1 h2 ls H locs X hL hW hS
  subst hs0
  refine va_calli (va_runS (As := As.map (zmv G)) (rest := st.map (zmv G)) ⟨hc.1, hc.2.1, hc.2.2.1, hc.2.2.2.1, hc.2.2.2.2.1⟩ hM ⟨zcallB hc hk hl hroom, hc.2.2.2.2.1 _ hst⟩ ⟨zblind As M, zpre_of hc hW hS (zokA h1)⟩ rfl (by rw [List.length_map]; exact hn) hL.1 (zstk As st) (lv_room (by rw [zcats]; exact hcap)) hd hcs) hS (fun q _ h => h) (fun q h => h) (fun r M' t H1 locs1 ht hvm hw hB hz1 hk1 hS1 => ?_)
  obtain ⟨X', hW'⟩ := hB
  rw [ht] at hW'
  have h9 := kk r.toInt M' hw (zokC (zokB h1) (zr_of r)) h2 ls H1 locs1 X' hL hW' hS1
  rw [List.map_cons, zmv, zr_back] at h9
  exact h9
theorem zj_stv (hc : zCx p s m args c cc nL own G) {y : MethodName} {cc' : ByteArray} {maxL : Nat} {ret : Option FieldType} {n f lo mc ms index : Nat} {As : List zV} {Qr : zMem → Prop} (hk : zKs y cc' maxL ret n) (hst : Cond.static y ∈ lw_ws) (hl : Cond.methodLink own index y ∈ lw_ws) (hM : zMetV l y cc' maxL ret f lo mc ms G As M Qr) (hn : As.length = n) (hroom : f + 1 ≤ R.frames ∧ 8 + (maxL + 11) + lo ≤ R.locals) (hcap : st.length ≤ 8) (hcs : cells + mc ≤ R.cells ∧ slots + ms ≤ R.slots) (hd : decode cc pc = .ok (.invokestatic index, 3)) {st0 : List zV} (hs0 : st0 = As.reverse ++ st)
    (kk : ∀ (M' : zMem), Qr M' → zJ p l e R s m args below meth c G nL (cells + mc) (slots + ms) Q (pc + 3) L st M') : zJ p l e R s m args below meth c G nL cells slots Q pc L st0 M := by
  intro h1 h2 ls H locs X hL hW hS
  subst hs0
  refine va_callv (va_runS (As := As.map (zmv G)) (rest := st.map (zmv G)) ⟨hc.1, hc.2.1, hc.2.2.1, hc.2.2.2.1, hc.2.2.2.2.1⟩ hM ⟨zcallB hc hk hl hroom, hc.2.2.2.2.1 _ hst⟩ ⟨zblind As M, zpre_of hc hW hS (zokA h1)⟩ rfl (by rw [List.length_map]; exact hn) hL.1 (zstk As st) (lv_room (by rw [zcats]; exact hcap)) hd hcs) hS (fun q _ h => h) (fun q h => h) (fun M' t H1 locs1 ht hvm hw hB hz1 hk1 hS1 => ?_)
  obtain ⟨X', hW'⟩ := hB
  rw [ht] at hW'
  exact kk M' hw (zokB h1) h2 ls H1 locs1 X' hL hW' hS1
theorem zj_vti (hc : zCx p s m args c cc nL own G) {y : MethodName} {cc' : ByteArray} {maxL : Nat} {ret : Option FieldType} {n f lo mc ms index a : Nat} {As : List zV} {Qr : Int → zMem → Prop} (hk : zKs y cc' maxL ret n) (hst : Cond.instanceMethod y ∈ lw_ws ∧ Cond.selects y.cls y y ∈ lw_ws) (hl : Cond.methodLink own index y ∈ lw_ws) (hrv : zRecv G M a y.cls) (hM : zMetI l y cc' maxL ret f lo mc ms G (.inr a :: As) M Qr) (hn : As.length = n) (hroom : f + 1 ≤ R.frames ∧ 8 + (maxL + 11) + lo ≤ R.locals) (hcap : st.length ≤ 8) (hcs : cells + mc ≤ R.cells ∧ slots + ms ≤ R.slots) (hd : decode cc pc = .ok (.invokevirtual index, 3)) {st0 : List zV} (hs0 : st0 = As.reverse ++ (.inr a :: st))
    (kk : ∀ (r : Int) (M' : zMem), Qr r M' → zJ p l e R s m args below meth c G nL (cells + mc) (slots + ms) Q (pc + 3) L (.inl r :: st) M') : zJ p l e R s m args below meth c G nL cells slots Q pc L st0 M := by
  intro h1 h2 ls H locs X hL hW hS
  subst hs0
  have hok : ∀ v ∈ (.inr a :: As : List zV), zok v := List.forall_mem_cons.mpr ⟨trivial, zokA h1⟩
  obtain ⟨o0, ci, fs, T, N, hob, hcl⟩ := hrv
  have hlt : o0 < (zobjs G M).length := (List.getElem?_eq_some_iff.mp hob).1
  refine va_calli (va_runV (C := y.cls) (b := zad G a) (As := As.map (zmv G)) (rest := st.map (zmv G)) ⟨hc.1, hc.2.1, hc.2.2.1, hc.2.2.2.1, hc.2.2.2.2.1⟩ hM ⟨zcallB hc hk hl hroom, hc.2.2.2.2.1 _ hst.1, hc.2.2.2.2.1 _ hst.2⟩ ⟨zblind (.inr a :: As) M, va_recv hc.2.2.2.2.2.1.1 hW.1 hcl (q0 := o0) (by unfold zcl; rw [List.getElem?_append_left hlt]; exact hob), zpre_of hc hW hS hok⟩ rfl (by rw [List.length_map]; exact hn) hL.1 (zstk As (.inr a :: st)) (lv_room (by rw [zcats]; exact hcap)) hd hcs) hS (fun q _ h => h) (fun q h => h) (fun r M' t H1 locs1 ht hvm hw hB hz1 hk1 hS1 => ?_)
  obtain ⟨X', hW'⟩ := hB
  rw [ht] at hW'
  have h9 := kk r.toInt M' hw (zokC (zokT (zokB h1)) (zr_of r)) h2 ls H1 locs1 X' hL hW' hS1
  rw [List.map_cons, zmv, zr_back] at h9
  exact h9
theorem zj_vtv (hc : zCx p s m args c cc nL own G) {y : MethodName} {cc' : ByteArray} {maxL : Nat} {ret : Option FieldType} {n f lo mc ms index a : Nat} {As : List zV} {Qr : zMem → Prop} (hk : zKs y cc' maxL ret n) (hst : Cond.instanceMethod y ∈ lw_ws ∧ Cond.selects y.cls y y ∈ lw_ws) (hl : Cond.methodLink own index y ∈ lw_ws) (hrv : zRecv G M a y.cls) (hM : zMetV l y cc' maxL ret f lo mc ms G (.inr a :: As) M Qr) (hn : As.length = n) (hroom : f + 1 ≤ R.frames ∧ 8 + (maxL + 11) + lo ≤ R.locals) (hcap : st.length ≤ 8) (hcs : cells + mc ≤ R.cells ∧ slots + ms ≤ R.slots) (hd : decode cc pc = .ok (.invokevirtual index, 3)) {st0 : List zV} (hs0 : st0 = As.reverse ++ (.inr a :: st))
    (kk : ∀ (M' : zMem), Qr M' → zJ p l e R s m args below meth c G nL (cells + mc) (slots + ms) Q (pc + 3) L st M') : zJ p l e R s m args below meth c G nL cells slots Q pc L st0 M := by
  intro h1 h2 ls H locs X hL hW hS
  subst hs0
  have hok : ∀ v ∈ (.inr a :: As : List zV), zok v := List.forall_mem_cons.mpr ⟨trivial, zokA h1⟩
  obtain ⟨o0, ci, fs, T, N, hob, hcl⟩ := hrv
  have hlt : o0 < (zobjs G M).length := (List.getElem?_eq_some_iff.mp hob).1
  refine va_callv (va_runV (C := y.cls) (b := zad G a) (As := As.map (zmv G)) (rest := st.map (zmv G)) ⟨hc.1, hc.2.1, hc.2.2.1, hc.2.2.2.1, hc.2.2.2.2.1⟩ hM ⟨zcallB hc hk hl hroom, hc.2.2.2.2.1 _ hst.1, hc.2.2.2.2.1 _ hst.2⟩ ⟨zblind (.inr a :: As) M, va_recv hc.2.2.2.2.2.1.1 hW.1 hcl (q0 := o0) (by unfold zcl; rw [List.getElem?_append_left hlt]; exact hob), zpre_of hc hW hS hok⟩ rfl (by rw [List.length_map]; exact hn) hL.1 (zstk As (.inr a :: st)) (lv_room (by rw [zcats]; exact hcap)) hd hcs) hS (fun q _ h => h) (fun q h => h) (fun M' t H1 locs1 ht hvm hw hB hz1 hk1 hS1 => ?_)
  obtain ⟨X', hW'⟩ := hB
  rw [ht] at hW'
  exact kk M' hw (zokT (zokB h1)) h2 ls H1 locs1 X' hL hW' hS1
theorem zj_sni (hc : zCx p s m args c cc nL own G) {y : MethodName} {host : String} {cc' : ByteArray} {maxL : Nat} {ret : Option FieldType} {n f lo mc ms index : Nat} {As : List zV} {Qr : Int → zMem → Prop} (hk : zKs y cc' maxL ret n) (hst : Cond.static y ∈ lw_ws) (hl : Cond.methodLinkNest own index y host ∈ zNW) (hM : zMetI l y cc' maxL ret f lo mc ms G As M Qr) (hn : As.length = n) (hroom : f + 1 ≤ R.frames ∧ 8 + (maxL + 11) + lo ≤ R.locals) (hcap : st.length ≤ 8) (hcs : cells + mc ≤ R.cells ∧ slots + ms ≤ R.slots) (hd : decode cc pc = .ok (.invokestatic index, 3)) {st0 : List zV} (hs0 : st0 = As.reverse ++ st)
    (kk : ∀ (r : Int) (M' : zMem), Qr r M' → zJ p l e R s m args below meth c G nL (cells + mc) (slots + ms) Q (pc + 3) L (.inl r :: st) M') : zJ p l e R s m args below meth c G nL cells slots Q pc L st0 M := by
  intro h1 h2 ls H locs X hL hW hS
  subst hs0
  refine va_calli (va_runSN (As := As.map (zmv G)) (rest := st.map (zmv G)) ⟨hc.1, hc.2.1, hc.2.2.1, hc.2.2.2.1, hc.2.2.2.2.1⟩ hM ⟨va_cnB n hc.2.2.2.2.1 (zgood hk) rfl rfl rfl (hc.2.2.2.2.2.1.2.1 _ hl) (hc.2.2.2.2.1 _ hk.2.1) hk.2.2 hroom, hc.2.2.2.2.1 _ hst, trivial⟩ ⟨zblind As M, zpre_of hc hW hS (zokA h1)⟩ rfl (by rw [List.length_map]; exact hn) hL.1 (zstk As st) (lv_room (by rw [zcats]; exact hcap)) hd hcs) hS (fun q _ h => h) (fun q h => h) (fun r M' t H1 locs1 ht hvm hw hB hz1 hk1 hS1 => ?_)
  obtain ⟨X', hW'⟩ := hB
  rw [ht] at hW'
  have h9 := kk r.toInt M' hw (zokC (zokB h1) (zr_of r)) h2 ls H1 locs1 X' hL hW' hS1
  rw [List.map_cons, zmv, zr_back] at h9
  exact h9
theorem zj_min (hc : zCx p s m args c cc nL own G) {index : Nat} {x y : Int} (hd : decode cc pc = .ok (.invokestatic index, 3)) (hlink : Cond.methodLink own index Lib.Math.min.name ∈ lw_ws) (hstat : Cond.static Lib.Math.min.name ∈ lw_ws) (hini : Cond.initialized "java/lang/Math" ∈ lw_ws) (hcode : Cond.code Lib.Math.min.name Lib.Math.min.code 2 (some .int) ∈ lw_ws) (hfr : 1 ≤ R.frames) (hlo : st.length + 13 ≤ R.locals) (hcs : cells ≤ R.cells ∧ slots ≤ R.slots)
    (kk : zJ p l e R s m args below meth c G nL cells slots Q (pc + 3) L (.inl (min x y) :: st) M) : zJ p l e R s m args below meth c G nL cells slots Q pc L (.inl y :: .inl x :: st) M := by
  intro h1 h2 ls H locs X hL hW hS
  have hy : inR y := zokH h1
  have hx : inR x := zokH (zokT h1)
  refine va_mmin hc.1 hc.2.1 (by rw [hc.2.2.1, hL.1]) hc.2.2.2.1 (hc.2.2.2.2.1 _ hlink) (hc.2.2.2.2.1 _ hstat) (hc.2.2.2.2.1 _ hini) (hc.2.2.2.2.1 _ hcode) hfr (by rw [zcats]; exact hlo) hcs.1 hcs.2 hd ?_
  have he : (if Int32.ofInt y < Int32.ofInt x then Int32.ofInt y else Int32.ofInt x) = Int32.ofInt (min x y) := by
    by_cases h : y < x
    · rw [if_pos ((zr_lt hy hx).mpr h), Int.min_eq_right (by omega)]
    · rw [if_neg (fun h9 => h ((zr_lt hy hx).mp h9)), Int.min_eq_left (by omega)]
  rw [he]
  exact kk (zokC (zokT (zokT h1)) (by have := hx.1; have := hx.2; have := hy.1; have := hy.2; exact ⟨by omega, by omega⟩)) h2 ls H locs X hL hW hS
theorem zj_max (hc : zCx p s m args c cc nL own G) {index : Nat} {x y : Int} (hd : decode cc pc = .ok (.invokestatic index, 3)) (hlink : Cond.methodLink own index Lib.Math.max.name ∈ lw_ws) (hstat : Cond.static Lib.Math.max.name ∈ lw_ws) (hini : Cond.initialized "java/lang/Math" ∈ lw_ws) (hcode : Cond.code Lib.Math.max.name Lib.Math.max.code 2 (some .int) ∈ lw_ws) (hfr : 1 ≤ R.frames) (hlo : st.length + 13 ≤ R.locals) (hcs : cells ≤ R.cells ∧ slots ≤ R.slots)
    (kk : zJ p l e R s m args below meth c G nL cells slots Q (pc + 3) L (.inl (max x y) :: st) M) : zJ p l e R s m args below meth c G nL cells slots Q pc L (.inl y :: .inl x :: st) M := by
  intro h1 h2 ls H locs X hL hW hS
  have hy : inR y := zokH h1
  have hx : inR x := zokH (zokT h1)
  refine va_mmax hc.1 hc.2.1 (by rw [hc.2.2.1, hL.1]) hc.2.2.2.1 (hc.2.2.2.2.1 _ hlink) (hc.2.2.2.2.1 _ hstat) (hc.2.2.2.2.1 _ hini) (hc.2.2.2.2.1 _ hcode) hfr (by rw [zcats]; exact hlo) hcs.1 hcs.2 hd ?_
  have he : (if Int32.ofInt x < Int32.ofInt y then Int32.ofInt y else Int32.ofInt x) = Int32.ofInt (max x y) := by
    by_cases h : x < y
    · rw [if_pos ((zr_lt hx hy).mpr h), Int.max_eq_right (by omega)]
    · rw [if_neg (fun h9 => h ((zr_lt hx hy).mp h9)), Int.max_eq_left (by omega)]
  rw [he]
  exact kk (zokC (zokT (zokT h1)) (by have := hx.1; have := hx.2; have := hy.1; have := hy.2; exact ⟨by omega, by omega⟩)) h2 ls H locs X hL hW hS
end zCalls
end
