section
-- ===== PART A: goes FIRST, ahead of the names: the tables' words, and 'selects' of the private methods out of them =====
/-- a private method of a class that the tables say can be made, by its rows of tables_1 -/
def lw_okq (q : MethodName × Nat) : Prop := (q.1.cls ≠ "java/lang/invoke/MethodHandle" ∧ q.1.cls ≠ "java/lang/invoke/VarHandle") ∧ Cond.instantiable q.1.cls q.2 ∈ tables_1 ∧ Cond.privateMethod q.1 ∈ tables_1 ∧ Cond.instanceMethod q.1 ∈ tables_1
theorem lw_p0 : lw_okq (⟨"AgedLog$Log", "openNext", "()V"⟩, 14) := ⟨⟨by decide +kernel, by decide +kernel⟩, List.mem_of_getElem? (i := 71) (by decide +kernel), List.mem_of_getElem? (i := 266) (by decide +kernel), List.mem_of_getElem? (i := 267) (by decide +kernel)⟩
theorem lw_p1 : lw_okq (⟨"AgedLog$Log", "leastFree", "()I"⟩, 14) := ⟨⟨by decide +kernel, by decide +kernel⟩, List.mem_of_getElem? (i := 71) (by decide +kernel), List.mem_of_getElem? (i := 270) (by decide +kernel), List.mem_of_getElem? (i := 271) (by decide +kernel)⟩
theorem lw_p2 : lw_okq (⟨"AgedLog$Log", "noteFresh", "(I)V"⟩, 14) := ⟨⟨by decide +kernel, by decide +kernel⟩, List.mem_of_getElem? (i := 71) (by decide +kernel), List.mem_of_getElem? (i := 305) (by decide +kernel), List.mem_of_getElem? (i := 306) (by decide +kernel)⟩
theorem lw_p3 : lw_okq (⟨"AgedLog$Log", "writeFreshOf", "(ILAgedLog$Disk;)I"⟩, 14) := ⟨⟨by decide +kernel, by decide +kernel⟩, List.mem_of_getElem? (i := 71) (by decide +kernel), List.mem_of_getElem? (i := 362) (by decide +kernel), List.mem_of_getElem? (i := 363) (by decide +kernel)⟩
theorem lw_p4 : lw_okq (⟨"AgedLog$Log", "writeSector", "(IIILAgedLog$Disk;)Z"⟩, 14) := ⟨⟨by decide +kernel, by decide +kernel⟩, List.mem_of_getElem? (i := 71) (by decide +kernel), List.mem_of_getElem? (i := 366) (by decide +kernel), List.mem_of_getElem? (i := 367) (by decide +kernel)⟩
theorem lw_p5 : lw_okq (⟨"AgedLog$Regions", "fillRow", "()I"⟩, 6) := ⟨⟨by decide +kernel, by decide +kernel⟩, List.mem_of_getElem? (i := 166) (by decide +kernel), List.mem_of_getElem? (i := 387) (by decide +kernel), List.mem_of_getElem? (i := 388) (by decide +kernel)⟩
theorem lw_p6 : lw_okq (⟨"AgedLog$Cleaner", "choose", "(I)I"⟩, 6) := ⟨⟨by decide +kernel, by decide +kernel⟩, List.mem_of_getElem? (i := 141) (by decide +kernel), List.mem_of_getElem? (i := 422) (by decide +kernel), List.mem_of_getElem? (i := 423) (by decide +kernel)⟩
theorem lw_p7 : lw_okq (⟨"AgedLog$Cleaner", "forgetChosen", "()V"⟩, 6) := ⟨⟨by decide +kernel, by decide +kernel⟩, List.mem_of_getElem? (i := 141) (by decide +kernel), List.mem_of_getElem? (i := 426) (by decide +kernel), List.mem_of_getElem? (i := 427) (by decide +kernel)⟩
theorem lw_p8 : lw_okq (⟨"AgedLog$Cleaner", "weighLive", "()V"⟩, 6) := ⟨⟨by decide +kernel, by decide +kernel⟩, List.mem_of_getElem? (i := 141) (by decide +kernel), List.mem_of_getElem? (i := 430) (by decide +kernel), List.mem_of_getElem? (i := 431) (by decide +kernel)⟩
theorem lw_p9 : lw_okq (⟨"AgedLog$Cleaner", "bestLeft", "()I"⟩, 6) := ⟨⟨by decide +kernel, by decide +kernel⟩, List.mem_of_getElem? (i := 141) (by decide +kernel), List.mem_of_getElem? (i := 440) (by decide +kernel), List.mem_of_getElem? (i := 441) (by decide +kernel)⟩
theorem lw_p10 : lw_okq (⟨"AgedLog$Cleaner", "isWorthMore", "(II)Z"⟩, 6) := ⟨⟨by decide +kernel, by decide +kernel⟩, List.mem_of_getElem? (i := 141) (by decide +kernel), List.mem_of_getElem? (i := 448) (by decide +kernel), List.mem_of_getElem? (i := 449) (by decide +kernel)⟩
theorem lw_p11 : lw_okq (⟨"AgedLog$Cleaner", "ageOf", "(I)J"⟩, 6) := ⟨⟨by decide +kernel, by decide +kernel⟩, List.mem_of_getElem? (i := 141) (by decide +kernel), List.mem_of_getElem? (i := 452) (by decide +kernel), List.mem_of_getElem? (i := 453) (by decide +kernel)⟩
theorem lw_p12 : lw_okq (⟨"AgedLog$Cleaner", "gatherAged", "()V"⟩, 6) := ⟨⟨by decide +kernel, by decide +kernel⟩, List.mem_of_getElem? (i := 141) (by decide +kernel), List.mem_of_getElem? (i := 460) (by decide +kernel), List.mem_of_getElem? (i := 461) (by decide +kernel)⟩
theorem lw_p13 : lw_okq (⟨"AgedLog$Cleaner", "insertAged", "(I)V"⟩, 6) := ⟨⟨by decide +kernel, by decide +kernel⟩, List.mem_of_getElem? (i := 141) (by decide +kernel), List.mem_of_getElem? (i := 464) (by decide +kernel), List.mem_of_getElem? (i := 465) (by decide +kernel)⟩
theorem lw_p14 : lw_okq (⟨"AgedLog$Cleaner", "isOlder", "(II)Z"⟩, 6) := ⟨⟨by decide +kernel, by decide +kernel⟩, List.mem_of_getElem? (i := 141) (by decide +kernel), List.mem_of_getElem? (i := 468) (by decide +kernel), List.mem_of_getElem? (i := 469) (by decide +kernel)⟩
theorem lw_p15 : lw_okq (⟨"AgedLog$Cleaner", "countWanted", "()I"⟩, 6) := ⟨⟨by decide +kernel, by decide +kernel⟩, List.mem_of_getElem? (i := 141) (by decide +kernel), List.mem_of_getElem? (i := 480) (by decide +kernel), List.mem_of_getElem? (i := 481) (by decide +kernel)⟩
def lw_privs_1 : List (MethodName × Nat) := [(⟨"AgedLog$Log", "openNext", "()V"⟩, 14), (⟨"AgedLog$Log", "leastFree", "()I"⟩, 14), (⟨"AgedLog$Log", "noteFresh", "(I)V"⟩, 14), (⟨"AgedLog$Log", "writeFreshOf", "(ILAgedLog$Disk;)I"⟩, 14), (⟨"AgedLog$Log", "writeSector", "(IIILAgedLog$Disk;)Z"⟩, 14), (⟨"AgedLog$Regions", "fillRow", "()I"⟩, 6), (⟨"AgedLog$Cleaner", "choose", "(I)I"⟩, 6), (⟨"AgedLog$Cleaner", "forgetChosen", "()V"⟩, 6), (⟨"AgedLog$Cleaner", "weighLive", "()V"⟩, 6), (⟨"AgedLog$Cleaner", "bestLeft", "()I"⟩, 6), (⟨"AgedLog$Cleaner", "isWorthMore", "(II)Z"⟩, 6), (⟨"AgedLog$Cleaner", "ageOf", "(I)J"⟩, 6), (⟨"AgedLog$Cleaner", "gatherAged", "()V"⟩, 6), (⟨"AgedLog$Cleaner", "insertAged", "(I)V"⟩, 6), (⟨"AgedLog$Cleaner", "isOlder", "(II)Z"⟩, 6), (⟨"AgedLog$Cleaner", "countWanted", "()I"⟩, 6)]
theorem lw_r1 : ∀ q ∈ lw_privs_1, lw_okq q := List.forall_mem_cons.mpr ⟨lw_p0, List.forall_mem_cons.mpr ⟨lw_p1, List.forall_mem_cons.mpr ⟨lw_p2, List.forall_mem_cons.mpr ⟨lw_p3, List.forall_mem_cons.mpr ⟨lw_p4, List.forall_mem_cons.mpr ⟨lw_p5, List.forall_mem_cons.mpr ⟨lw_p6, List.forall_mem_cons.mpr ⟨lw_p7, List.forall_mem_cons.mpr ⟨lw_p8, List.forall_mem_cons.mpr ⟨lw_p9, List.forall_mem_cons.mpr ⟨lw_p10, List.forall_mem_cons.mpr ⟨lw_p11, List.forall_mem_cons.mpr ⟨lw_p12, List.forall_mem_cons.mpr ⟨lw_p13, List.forall_mem_cons.mpr ⟨lw_p14, List.forall_mem_cons.mpr ⟨lw_p15, fun _ h => absurd h List.not_mem_nil⟩⟩⟩⟩⟩⟩⟩⟩⟩⟩⟩⟩⟩⟩⟩⟩
theorem lw_p16 : lw_okq (⟨"AgedLog$Cleaner", "appendAgain", "(I)V"⟩, 6) := ⟨⟨by decide +kernel, by decide +kernel⟩, List.mem_of_getElem? (i := 141) (by decide +kernel), List.mem_of_getElem? (i := 485) (by decide +kernel), List.mem_of_getElem? (i := 486) (by decide +kernel)⟩
theorem lw_p17 : lw_okq (⟨"AgedLog$Regions", "isRight", "(I)Z"⟩, 6) := ⟨⟨by decide +kernel, by decide +kernel⟩, List.mem_of_getElem? (i := 166) (by decide +kernel), List.mem_of_getElem? (i := 534) (by decide +kernel), List.mem_of_getElem? (i := 535) (by decide +kernel)⟩
theorem lw_p18 : lw_okq (⟨"AgedLog$Regions", "numberAt", "(III)I"⟩, 6) := ⟨⟨by decide +kernel, by decide +kernel⟩, List.mem_of_getElem? (i := 166) (by decide +kernel), List.mem_of_getElem? (i := 538) (by decide +kernel), List.mem_of_getElem? (i := 539) (by decide +kernel)⟩
theorem lw_p19 : lw_okq (⟨"AgedLog$Disk", "isTorn", "(II)Z"⟩, 5) := ⟨⟨by decide +kernel, by decide +kernel⟩, List.mem_of_getElem? (i := 23) (by decide +kernel), List.mem_of_getElem? (i := 550) (by decide +kernel), List.mem_of_getElem? (i := 551) (by decide +kernel)⟩
theorem lw_p20 : lw_okq (⟨"AgedLog$Regions", "areNumbersRight", "(I)Z"⟩, 6) := ⟨⟨by decide +kernel, by decide +kernel⟩, List.mem_of_getElem? (i := 166) (by decide +kernel), List.mem_of_getElem? (i := 557) (by decide +kernel), List.mem_of_getElem? (i := 558) (by decide +kernel)⟩
theorem lw_p21 : lw_okq (⟨"AgedLog$Regions", "isOpenRight", "(I)Z"⟩, 6) := ⟨⟨by decide +kernel, by decide +kernel⟩, List.mem_of_getElem? (i := 166) (by decide +kernel), List.mem_of_getElem? (i := 561) (by decide +kernel), List.mem_of_getElem? (i := 562) (by decide +kernel)⟩
theorem lw_p22 : lw_okq (⟨"AgedLog$Regions", "areKeysRight", "(II)Z"⟩, 6) := ⟨⟨by decide +kernel, by decide +kernel⟩, List.mem_of_getElem? (i := 166) (by decide +kernel), List.mem_of_getElem? (i := 566) (by decide +kernel), List.mem_of_getElem? (i := 567) (by decide +kernel)⟩
theorem lw_p23 : lw_okq (⟨"AgedLog$Regions", "areFlagsRight", "(II)Z"⟩, 6) := ⟨⟨by decide +kernel, by decide +kernel⟩, List.mem_of_getElem? (i := 166) (by decide +kernel), List.mem_of_getElem? (i := 571) (by decide +kernel), List.mem_of_getElem? (i := 572) (by decide +kernel)⟩
theorem lw_p24 : lw_okq (⟨"AgedLog$Recovery", "loadIndex", "(I)V"⟩, 4) := ⟨⟨by decide +kernel, by decide +kernel⟩, List.mem_of_getElem? (i := 192) (by decide +kernel), List.mem_of_getElem? (i := 585) (by decide +kernel), List.mem_of_getElem? (i := 586) (by decide +kernel)⟩
theorem lw_p25 : lw_okq (⟨"AgedLog$Recovery", "isPutOf", "(III)Z"⟩, 4) := ⟨⟨by decide +kernel, by decide +kernel⟩, List.mem_of_getElem? (i := 192) (by decide +kernel), List.mem_of_getElem? (i := 602) (by decide +kernel), List.mem_of_getElem? (i := 603) (by decide +kernel)⟩
theorem lw_p26 : lw_okq (⟨"AgedLog$Recovery", "rightLength", "(II)I"⟩, 4) := ⟨⟨by decide +kernel, by decide +kernel⟩, List.mem_of_getElem? (i := 192) (by decide +kernel), List.mem_of_getElem? (i := 606) (by decide +kernel), List.mem_of_getElem? (i := 607) (by decide +kernel)⟩
theorem lw_p27 : lw_okq (⟨"AgedLog$Recovery", "kindAt", "(II)I"⟩, 4) := ⟨⟨by decide +kernel, by decide +kernel⟩, List.mem_of_getElem? (i := 192) (by decide +kernel), List.mem_of_getElem? (i := 611) (by decide +kernel), List.mem_of_getElem? (i := 612) (by decide +kernel)⟩
theorem lw_p28 : lw_okq (⟨"AgedLog$Recovery", "valueLengthAt", "(II)I"⟩, 4) := ⟨⟨by decide +kernel, by decide +kernel⟩, List.mem_of_getElem? (i := 192) (by decide +kernel), List.mem_of_getElem? (i := 616) (by decide +kernel), List.mem_of_getElem? (i := 617) (by decide +kernel)⟩
theorem lw_p29 : lw_okq (⟨"AgedLog$Recovery", "keyAt", "(II)I"⟩, 4) := ⟨⟨by decide +kernel, by decide +kernel⟩, List.mem_of_getElem? (i := 192) (by decide +kernel), List.mem_of_getElem? (i := 620) (by decide +kernel), List.mem_of_getElem? (i := 621) (by decide +kernel)⟩
theorem lw_p30 : lw_okq (⟨"AgedLog$Recovery", "endOf", "(I)I"⟩, 4) := ⟨⟨by decide +kernel, by decide +kernel⟩, List.mem_of_getElem? (i := 192) (by decide +kernel), List.mem_of_getElem? (i := 627) (by decide +kernel), List.mem_of_getElem? (i := 628) (by decide +kernel)⟩
theorem lw_p31 : lw_okq (⟨"AgedLog$Recovery", "findNext", "()Z"⟩, 4) := ⟨⟨by decide +kernel, by decide +kernel⟩, List.mem_of_getElem? (i := 192) (by decide +kernel), List.mem_of_getElem? (i := 636) (by decide +kernel), List.mem_of_getElem? (i := 637) (by decide +kernel)⟩
def lw_privs_2 : List (MethodName × Nat) := [(⟨"AgedLog$Cleaner", "appendAgain", "(I)V"⟩, 6), (⟨"AgedLog$Regions", "isRight", "(I)Z"⟩, 6), (⟨"AgedLog$Regions", "numberAt", "(III)I"⟩, 6), (⟨"AgedLog$Disk", "isTorn", "(II)Z"⟩, 5), (⟨"AgedLog$Regions", "areNumbersRight", "(I)Z"⟩, 6), (⟨"AgedLog$Regions", "isOpenRight", "(I)Z"⟩, 6), (⟨"AgedLog$Regions", "areKeysRight", "(II)Z"⟩, 6), (⟨"AgedLog$Regions", "areFlagsRight", "(II)Z"⟩, 6), (⟨"AgedLog$Recovery", "loadIndex", "(I)V"⟩, 4), (⟨"AgedLog$Recovery", "isPutOf", "(III)Z"⟩, 4), (⟨"AgedLog$Recovery", "rightLength", "(II)I"⟩, 4), (⟨"AgedLog$Recovery", "kindAt", "(II)I"⟩, 4), (⟨"AgedLog$Recovery", "valueLengthAt", "(II)I"⟩, 4), (⟨"AgedLog$Recovery", "keyAt", "(II)I"⟩, 4), (⟨"AgedLog$Recovery", "endOf", "(I)I"⟩, 4), (⟨"AgedLog$Recovery", "findNext", "()Z"⟩, 4)]
theorem lw_r2 : ∀ q ∈ lw_privs_2, lw_okq q := List.forall_mem_cons.mpr ⟨lw_p16, List.forall_mem_cons.mpr ⟨lw_p17, List.forall_mem_cons.mpr ⟨lw_p18, List.forall_mem_cons.mpr ⟨lw_p19, List.forall_mem_cons.mpr ⟨lw_p20, List.forall_mem_cons.mpr ⟨lw_p21, List.forall_mem_cons.mpr ⟨lw_p22, List.forall_mem_cons.mpr ⟨lw_p23, List.forall_mem_cons.mpr ⟨lw_p24, List.forall_mem_cons.mpr ⟨lw_p25, List.forall_mem_cons.mpr ⟨lw_p26, List.forall_mem_cons.mpr ⟨lw_p27, List.forall_mem_cons.mpr ⟨lw_p28, List.forall_mem_cons.mpr ⟨lw_p29, List.forall_mem_cons.mpr ⟨lw_p30, List.forall_mem_cons.mpr ⟨lw_p31, fun _ h => absurd h List.not_mem_nil⟩⟩⟩⟩⟩⟩⟩⟩⟩⟩⟩⟩⟩⟩⟩⟩
theorem lw_p32 : lw_okq (⟨"AgedLog$Recovery", "isNext", "(II)Z"⟩, 4) := ⟨⟨by decide +kernel, by decide +kernel⟩, List.mem_of_getElem? (i := 192) (by decide +kernel), List.mem_of_getElem? (i := 640) (by decide +kernel), List.mem_of_getElem? (i := 641) (by decide +kernel)⟩
theorem lw_p33 : lw_okq (⟨"AgedLog$Recovery", "hasNextHead", "(I)Z"⟩, 4) := ⟨⟨by decide +kernel, by decide +kernel⟩, List.mem_of_getElem? (i := 192) (by decide +kernel), List.mem_of_getElem? (i := 644) (by decide +kernel), List.mem_of_getElem? (i := 645) (by decide +kernel)⟩
theorem lw_p34 : lw_okq (⟨"AgedLog$Recovery", "followRecord", "()V"⟩, 4) := ⟨⟨by decide +kernel, by decide +kernel⟩, List.mem_of_getElem? (i := 192) (by decide +kernel), List.mem_of_getElem? (i := 649) (by decide +kernel), List.mem_of_getElem? (i := 650) (by decide +kernel)⟩
theorem lw_p35 : lw_okq (⟨"AgedLog$Recovery", "timeAt", "(II)I"⟩, 4) := ⟨⟨by decide +kernel, by decide +kernel⟩, List.mem_of_getElem? (i := 192) (by decide +kernel), List.mem_of_getElem? (i := 653) (by decide +kernel), List.mem_of_getElem? (i := 654) (by decide +kernel)⟩
theorem lw_p36 : lw_okq (⟨"AgedLog$Recovery", "readTimesOf", "(I)V"⟩, 4) := ⟨⟨by decide +kernel, by decide +kernel⟩, List.mem_of_getElem? (i := 192) (by decide +kernel), List.mem_of_getElem? (i := 668) (by decide +kernel), List.mem_of_getElem? (i := 669) (by decide +kernel)⟩
theorem lw_p37 : lw_okq (⟨"AgedLog", "toldWhileUp", "(I)I"⟩, 9) := ⟨⟨by decide +kernel, by decide +kernel⟩, List.mem_of_getElem? (i := 15) (by decide +kernel), List.mem_of_getElem? (i := 720) (by decide +kernel), List.mem_of_getElem? (i := 721) (by decide +kernel)⟩
theorem lw_p38 : lw_okq (⟨"AgedLogModel", "opens", "(I)Z"⟩, 30) := ⟨⟨by decide +kernel, by decide +kernel⟩, List.mem_of_getElem? (i := 729) (by decide +kernel), List.mem_of_getElem? (i := 838) (by decide +kernel), List.mem_of_getElem? (i := 839) (by decide +kernel)⟩
theorem lw_p39 : lw_okq (⟨"AgedLogModel", "frees", "()I"⟩, 30) := ⟨⟨by decide +kernel, by decide +kernel⟩, List.mem_of_getElem? (i := 729) (by decide +kernel), List.mem_of_getElem? (i := 842) (by decide +kernel), List.mem_of_getElem? (i := 843) (by decide +kernel)⟩
theorem lw_p40 : lw_okq (⟨"AgedLogModel", "record", "(IIII)V"⟩, 30) := ⟨⟨by decide +kernel, by decide +kernel⟩, List.mem_of_getElem? (i := 729) (by decide +kernel), List.mem_of_getElem? (i := 846) (by decide +kernel), List.mem_of_getElem? (i := 847) (by decide +kernel)⟩
theorem lw_p41 : lw_okq (⟨"AgedLogModel", "openNext", "()V"⟩, 30) := ⟨⟨by decide +kernel, by decide +kernel⟩, List.mem_of_getElem? (i := 729) (by decide +kernel), List.mem_of_getElem? (i := 850) (by decide +kernel), List.mem_of_getElem? (i := 851) (by decide +kernel)⟩
theorem lw_p42 : lw_okq (⟨"AgedLogModel", "octets", "(II)V"⟩, 30) := ⟨⟨by decide +kernel, by decide +kernel⟩, List.mem_of_getElem? (i := 729) (by decide +kernel), List.mem_of_getElem? (i := 857) (by decide +kernel), List.mem_of_getElem? (i := 858) (by decide +kernel)⟩
theorem lw_p43 : lw_okq (⟨"AgedLogModel", "came", "(III)V"⟩, 30) := ⟨⟨by decide +kernel, by decide +kernel⟩, List.mem_of_getElem? (i := 729) (by decide +kernel), List.mem_of_getElem? (i := 865) (by decide +kernel), List.mem_of_getElem? (i := 866) (by decide +kernel)⟩
theorem lw_p44 : lw_okq (⟨"AgedLogModel", "none", "(I)Z"⟩, 30) := ⟨⟨by decide +kernel, by decide +kernel⟩, List.mem_of_getElem? (i := 729) (by decide +kernel), List.mem_of_getElem? (i := 873) (by decide +kernel), List.mem_of_getElem? (i := 874) (by decide +kernel)⟩
theorem lw_p45 : lw_okq (⟨"AgedLogModel", "recordSize", "(I)I"⟩, 30) := ⟨⟨by decide +kernel, by decide +kernel⟩, List.mem_of_getElem? (i := 729) (by decide +kernel), List.mem_of_getElem? (i := 881) (by decide +kernel), List.mem_of_getElem? (i := 882) (by decide +kernel)⟩
theorem lw_p46 : lw_okq (⟨"AgedLogModel", "syncAll", "()I"⟩, 30) := ⟨⟨by decide +kernel, by decide +kernel⟩, List.mem_of_getElem? (i := 729) (by decide +kernel), List.mem_of_getElem? (i := 893) (by decide +kernel), List.mem_of_getElem? (i := 894) (by decide +kernel)⟩
theorem lw_p47 : lw_okq (⟨"AgedLogModel", "write", "([BIII)Z"⟩, 30) := ⟨⟨by decide +kernel, by decide +kernel⟩, List.mem_of_getElem? (i := 729) (by decide +kernel), List.mem_of_getElem? (i := 897) (by decide +kernel), List.mem_of_getElem? (i := 898) (by decide +kernel)⟩
def lw_privs_3 : List (MethodName × Nat) := [(⟨"AgedLog$Recovery", "isNext", "(II)Z"⟩, 4), (⟨"AgedLog$Recovery", "hasNextHead", "(I)Z"⟩, 4), (⟨"AgedLog$Recovery", "followRecord", "()V"⟩, 4), (⟨"AgedLog$Recovery", "timeAt", "(II)I"⟩, 4), (⟨"AgedLog$Recovery", "readTimesOf", "(I)V"⟩, 4), (⟨"AgedLog", "toldWhileUp", "(I)I"⟩, 9), (⟨"AgedLogModel", "opens", "(I)Z"⟩, 30), (⟨"AgedLogModel", "frees", "()I"⟩, 30), (⟨"AgedLogModel", "record", "(IIII)V"⟩, 30), (⟨"AgedLogModel", "openNext", "()V"⟩, 30), (⟨"AgedLogModel", "octets", "(II)V"⟩, 30), (⟨"AgedLogModel", "came", "(III)V"⟩, 30), (⟨"AgedLogModel", "none", "(I)Z"⟩, 30), (⟨"AgedLogModel", "recordSize", "(I)I"⟩, 30), (⟨"AgedLogModel", "syncAll", "()I"⟩, 30), (⟨"AgedLogModel", "write", "([BIII)Z"⟩, 30)]
theorem lw_r3 : ∀ q ∈ lw_privs_3, lw_okq q := List.forall_mem_cons.mpr ⟨lw_p32, List.forall_mem_cons.mpr ⟨lw_p33, List.forall_mem_cons.mpr ⟨lw_p34, List.forall_mem_cons.mpr ⟨lw_p35, List.forall_mem_cons.mpr ⟨lw_p36, List.forall_mem_cons.mpr ⟨lw_p37, List.forall_mem_cons.mpr ⟨lw_p38, List.forall_mem_cons.mpr ⟨lw_p39, List.forall_mem_cons.mpr ⟨lw_p40, List.forall_mem_cons.mpr ⟨lw_p41, List.forall_mem_cons.mpr ⟨lw_p42, List.forall_mem_cons.mpr ⟨lw_p43, List.forall_mem_cons.mpr ⟨lw_p44, List.forall_mem_cons.mpr ⟨lw_p45, List.forall_mem_cons.mpr ⟨lw_p46, List.forall_mem_cons.mpr ⟨lw_p47, fun _ h => absurd h List.not_mem_nil⟩⟩⟩⟩⟩⟩⟩⟩⟩⟩⟩⟩⟩⟩⟩⟩
theorem lw_p48 : lw_okq (⟨"AgedLogModel", "keys", "()I"⟩, 30) := ⟨⟨by decide +kernel, by decide +kernel⟩, List.mem_of_getElem? (i := 729) (by decide +kernel), List.mem_of_getElem? (i := 905) (by decide +kernel), List.mem_of_getElem? (i := 906) (by decide +kernel)⟩
theorem lw_p49 : lw_okq (⟨"AgedLogModel", "best", "()I"⟩, 30) := ⟨⟨by decide +kernel, by decide +kernel⟩, List.mem_of_getElem? (i := 729) (by decide +kernel), List.mem_of_getElem? (i := 913) (by decide +kernel), List.mem_of_getElem? (i := 914) (by decide +kernel)⟩
theorem lw_p50 : lw_okq (⟨"AgedLogModel", "lives", "(I)I"⟩, 30) := ⟨⟨by decide +kernel, by decide +kernel⟩, List.mem_of_getElem? (i := 729) (by decide +kernel), List.mem_of_getElem? (i := 917) (by decide +kernel), List.mem_of_getElem? (i := 918) (by decide +kernel)⟩
theorem lw_p51 : lw_okq (⟨"AgedLogModel", "timeOf", "(I)I"⟩, 30) := ⟨⟨by decide +kernel, by decide +kernel⟩, List.mem_of_getElem? (i := 729) (by decide +kernel), List.mem_of_getElem? (i := 922) (by decide +kernel), List.mem_of_getElem? (i := 923) (by decide +kernel)⟩
theorem lw_p52 : lw_okq (⟨"AgedLogModel", "sequenceOf", "(I)I"⟩, 30) := ⟨⟨by decide +kernel, by decide +kernel⟩, List.mem_of_getElem? (i := 729) (by decide +kernel), List.mem_of_getElem? (i := 929) (by decide +kernel), List.mem_of_getElem? (i := 930) (by decide +kernel)⟩
theorem lw_p53 : lw_okq (⟨"AgedLogModel", "isRight", "(I)Z"⟩, 30) := ⟨⟨by decide +kernel, by decide +kernel⟩, List.mem_of_getElem? (i := 729) (by decide +kernel), List.mem_of_getElem? (i := 946) (by decide +kernel), List.mem_of_getElem? (i := 947) (by decide +kernel)⟩
theorem lw_p54 : lw_okq (⟨"AgedLogModel", "isTorn", "(II)Z"⟩, 30) := ⟨⟨by decide +kernel, by decide +kernel⟩, List.mem_of_getElem? (i := 729) (by decide +kernel), List.mem_of_getElem? (i := 950) (by decide +kernel), List.mem_of_getElem? (i := 951) (by decide +kernel)⟩
theorem lw_p55 : lw_okq (⟨"AgedLogModel", "load", "(I)V"⟩, 30) := ⟨⟨by decide +kernel, by decide +kernel⟩, List.mem_of_getElem? (i := 729) (by decide +kernel), List.mem_of_getElem? (i := 954) (by decide +kernel), List.mem_of_getElem? (i := 955) (by decide +kernel)⟩
theorem lw_p56 : lw_okq (⟨"AgedLogModel", "endOf", "(I)I"⟩, 30) := ⟨⟨by decide +kernel, by decide +kernel⟩, List.mem_of_getElem? (i := 729) (by decide +kernel), List.mem_of_getElem? (i := 958) (by decide +kernel), List.mem_of_getElem? (i := 959) (by decide +kernel)⟩
theorem lw_p57 : lw_okq (⟨"AgedLogModel", "right", "(III)I"⟩, 30) := ⟨⟨by decide +kernel, by decide +kernel⟩, List.mem_of_getElem? (i := 729) (by decide +kernel), List.mem_of_getElem? (i := 962) (by decide +kernel), List.mem_of_getElem? (i := 963) (by decide +kernel)⟩
theorem lw_p58 : lw_okq (⟨"AgedLogModel", "counts", "(II)Z"⟩, 30) := ⟨⟨by decide +kernel, by decide +kernel⟩, List.mem_of_getElem? (i := 729) (by decide +kernel), List.mem_of_getElem? (i := 966) (by decide +kernel), List.mem_of_getElem? (i := 967) (by decide +kernel)⟩
theorem lw_p59 : lw_okq (⟨"AgedLogModel", "goesOn", "()Z"⟩, 30) := ⟨⟨by decide +kernel, by decide +kernel⟩, List.mem_of_getElem? (i := 729) (by decide +kernel), List.mem_of_getElem? (i := 970) (by decide +kernel), List.mem_of_getElem? (i := 971) (by decide +kernel)⟩
theorem lw_p60 : lw_okq (⟨"AgedLogModel", "standing", "(I)I"⟩, 30) := ⟨⟨by decide +kernel, by decide +kernel⟩, List.mem_of_getElem? (i := 729) (by decide +kernel), List.mem_of_getElem? (i := 974) (by decide +kernel), List.mem_of_getElem? (i := 975) (by decide +kernel)⟩
def lw_privs_4 : List (MethodName × Nat) := [(⟨"AgedLogModel", "keys", "()I"⟩, 30), (⟨"AgedLogModel", "best", "()I"⟩, 30), (⟨"AgedLogModel", "lives", "(I)I"⟩, 30), (⟨"AgedLogModel", "timeOf", "(I)I"⟩, 30), (⟨"AgedLogModel", "sequenceOf", "(I)I"⟩, 30), (⟨"AgedLogModel", "isRight", "(I)Z"⟩, 30), (⟨"AgedLogModel", "isTorn", "(II)Z"⟩, 30), (⟨"AgedLogModel", "load", "(I)V"⟩, 30), (⟨"AgedLogModel", "endOf", "(I)I"⟩, 30), (⟨"AgedLogModel", "right", "(III)I"⟩, 30), (⟨"AgedLogModel", "counts", "(II)Z"⟩, 30), (⟨"AgedLogModel", "goesOn", "()Z"⟩, 30), (⟨"AgedLogModel", "standing", "(I)I"⟩, 30)]
theorem lw_r4 : ∀ q ∈ lw_privs_4, lw_okq q := List.forall_mem_cons.mpr ⟨lw_p48, List.forall_mem_cons.mpr ⟨lw_p49, List.forall_mem_cons.mpr ⟨lw_p50, List.forall_mem_cons.mpr ⟨lw_p51, List.forall_mem_cons.mpr ⟨lw_p52, List.forall_mem_cons.mpr ⟨lw_p53, List.forall_mem_cons.mpr ⟨lw_p54, List.forall_mem_cons.mpr ⟨lw_p55, List.forall_mem_cons.mpr ⟨lw_p56, List.forall_mem_cons.mpr ⟨lw_p57, List.forall_mem_cons.mpr ⟨lw_p58, List.forall_mem_cons.mpr ⟨lw_p59, List.forall_mem_cons.mpr ⟨lw_p60, fun _ h => absurd h List.not_mem_nil⟩⟩⟩⟩⟩⟩⟩⟩⟩⟩⟩⟩⟩
def lw_privs : List (MethodName × Nat) := lw_privs_1 ++ (lw_privs_2 ++ (lw_privs_3 ++ (lw_privs_4)))
def lw_tbl : List Cond := k2_sels lw_privs ++ tables_1
theorem lw_privs_ok : ∀ q ∈ lw_privs, lw_okq q := by
  show ∀ q ∈ lw_privs_1 ++ (lw_privs_2 ++ (lw_privs_3 ++ (lw_privs_4))), lw_okq q
  exact List.forall_mem_append.mpr ⟨lw_r1, List.forall_mem_append.mpr ⟨lw_r2, List.forall_mem_append.mpr ⟨lw_r3, lw_r4⟩⟩⟩
end
section
/-! ===== BEGIN words of one list among another's, by their places ===== -/
theorem goodIn_r {big : List Cond} (ws : List Cond) (ps : List Nat) (hp : ws = ps.filterMap (fun i => big[i]?)) (h : ws.all goodWord = true) : GoodIn big ws := by
  intro w hw
  have h1 := List.all_eq_true.mp h w hw
  rw [hp] at hw
  obtain ⟨i, -, hi⟩ := List.mem_filterMap.mp hw
  have hm : w ∈ big := by first | exact List.mem_of_getElem? hi | exact List.getElem?_mem hi
  exact ⟨hm, good_of_word h1⟩
theorem goodIn_app {big a b : List Cond} (ha : GoodIn big a) (hb : GoodIn big b) : GoodIn big (a ++ b) := fun w h => (List.mem_append.mp h).elim (ha w) (hb w)
theorem goodIn_ca {big a b : List Cond} {c : Cond} (ha : GoodIn big (c :: a)) (hb : GoodIn big b) : GoodIn big (c :: (a ++ b)) := fun w h => (List.mem_cons.mp h).elim (fun e => ha w (List.mem_cons.mpr (Or.inl e))) (fun h => (List.mem_append.mp h).elim (fun h => ha w (List.mem_cons.mpr (Or.inr h))) (hb w))
theorem goodIn_sub {big ws : List Cond} (hm : ∀ w ∈ ws, w ∈ big) (h : ws.all goodWord = true) : GoodIn big ws := fun w hw => ⟨hm w hw, good_of_word (List.all_eq_true.mp h w hw)⟩
/-! ===== END ===== -/

/-! ===== BEGIN printed: names, fields, word lists, decode rows ===== -/
def RX0 : String := "AgedLog$Cleaner"
def TX0 : u_T := fun k => match k with
  | 0 => ("AgedLog$Cleaner", "log", "LAgedLog$Log;", true)
  | 1 => ("AgedLog$Cleaner", "index", "LAgedLog$Index;", true)
  | 2 => ("AgedLog$Cleaner", "chosen", "[Z", true)
  | 3 => ("AgedLog$Cleaner", "live", "[I", true)
  | 4 => ("AgedLog$Cleaner", "aged", "[I", true)
  | _ => ("AgedLog$Cleaner", "agedCount", "I", false)
def tyX0 : Nat → FieldType := fun k => match k with
  | 0 => .object "AgedLog$Log"
  | 1 => .object "AgedLog$Index"
  | 2 => .array .boolean
  | 3 => .array .int
  | 4 => .array .int
  | _ => .int
abbrev wsX00 : List Cond := u_ws RX0 TX0 6
theorem nmX0 : ∀ a, a < 6 → ∀ b, b < 6 → a ≠ b → (TX0 a).2.1 ≠ (TX0 b).2.1 := by decide +kernel
theorem tyX0_ok : ∀ k, k < 6 → parseFieldDescriptor (TX0 k).2.2.1 = some (tyX0 k) := by decide +kernel
abbrev cX0_init : ByteArray := prog_2_method_1_code
def yX0_init : MethodName := ⟨RX0, "<init>", "(LAgedLog$Log;LAgedLog$Index;)V"⟩
abbrev cX0_spend : ByteArray := prog_2_method_2_code
def yX0_spend : MethodName := ⟨RX0, "spend", "(I)I"⟩
abbrev cX0_choose : ByteArray := prog_2_method_3_code
def yX0_choose : MethodName := ⟨RX0, "choose", "(I)I"⟩
abbrev cX0_forgetChosen : ByteArray := prog_2_method_4_code
def yX0_forgetChosen : MethodName := ⟨RX0, "forgetChosen", "()V"⟩
abbrev cX0_weighLive : ByteArray := prog_2_method_5_code
def yX0_weighLive : MethodName := ⟨RX0, "weighLive", "()V"⟩
abbrev cX0_bestLeft : ByteArray := prog_2_method_6_code
def yX0_bestLeft : MethodName := ⟨RX0, "bestLeft", "()I"⟩
abbrev cX0_isWorthMore : ByteArray := prog_2_method_7_code
def yX0_isWorthMore : MethodName := ⟨RX0, "isWorthMore", "(II)Z"⟩
abbrev cX0_ageOf : ByteArray := prog_2_method_8_code
def yX0_ageOf : MethodName := ⟨RX0, "ageOf", "(I)J"⟩
abbrev cX0_gatherAged : ByteArray := prog_2_method_9_code
def yX0_gatherAged : MethodName := ⟨RX0, "gatherAged", "()V"⟩
abbrev cX0_insertAged : ByteArray := prog_2_method_10_code
def yX0_insertAged : MethodName := ⟨RX0, "insertAged", "(I)V"⟩
abbrev cX0_isOlder : ByteArray := prog_2_method_11_code
def yX0_isOlder : MethodName := ⟨RX0, "isOlder", "(II)Z"⟩
abbrev cX0_countWanted : ByteArray := prog_2_method_12_code
def yX0_countWanted : MethodName := ⟨RX0, "countWanted", "()I"⟩
abbrev cX0_appendAgain : ByteArray := prog_2_method_13_code
def yX0_appendAgain : MethodName := ⟨RX0, "appendAgain", "(I)V"⟩
def RX1 : String := "AgedLog$Disk"
def TX1 : u_T := fun k => match k with
  | 0 => ("AgedLog$Disk", "row", "[B", true)
  | 1 => ("AgedLog$Disk", "tornTail", "[I", true)
  | 2 => ("AgedLog$Disk", "written", "I", false)
  | 3 => ("AgedLog$Disk", "sectorsToCut", "I", false)
  | _ => ("AgedLog$Disk", "octetsToCut", "I", false)
def tyX1 : Nat → FieldType := fun k => match k with
  | 0 => .array .byte
  | 1 => .array .int
  | 2 => .int
  | 3 => .int
  | _ => .int
abbrev wsX10 : List Cond := u_ws RX1 TX1 5
theorem nmX1 : ∀ a, a < 5 → ∀ b, b < 5 → a ≠ b → (TX1 a).2.1 ≠ (TX1 b).2.1 := by decide +kernel
theorem tyX1_ok : ∀ k, k < 5 → parseFieldDescriptor (TX1 k).2.2.1 = some (tyX1 k) := by decide +kernel
abbrev cX1_init : ByteArray := prog_3_method_1_code
def yX1_init : MethodName := ⟨RX1, "<init>", "()V"⟩
abbrev cX1_cutAt : ByteArray := prog_3_method_2_code
def yX1_cutAt : MethodName := ⟨RX1, "cutAt", "(II)V"⟩
abbrev cX1_flip : ByteArray := prog_3_method_3_code
def yX1_flip : MethodName := ⟨RX1, "flip", "(II)I"⟩
abbrev cX1_hasSum : ByteArray := prog_3_method_4_code
def yX1_hasSum : MethodName := ⟨RX1, "hasSum", "(II)Z"⟩
abbrev cX1_isTorn : ByteArray := prog_3_method_5_code
def yX1_isTorn : MethodName := ⟨RX1, "isTorn", "(II)Z"⟩
abbrev cX1_write : ByteArray := prog_3_method_6_code
def yX1_write : MethodName := ⟨RX1, "write", "(I[BII)Z"⟩
def RX2 : String := "AgedLog$Index"
def TX2 : u_T := fun k => match k with
  | 0 => ("AgedLog$Index", "segments", "[I", true)
  | 1 => ("AgedLog$Index", "places", "[I", true)
  | _ => ("AgedLog$Index", "count", "I", false)
def tyX2 : Nat → FieldType := fun k => match k with
  | 0 => .array .int
  | 1 => .array .int
  | _ => .int
abbrev wsX20 : List Cond := u_ws RX2 TX2 3
theorem nmX2 : ∀ a, a < 3 → ∀ b, b < 3 → a ≠ b → (TX2 a).2.1 ≠ (TX2 b).2.1 := by decide +kernel
theorem tyX2_ok : ∀ k, k < 3 → parseFieldDescriptor (TX2 k).2.2.1 = some (tyX2 k) := by decide +kernel
abbrev cX2_init : ByteArray := prog_4_method_1_code
def yX2_init : MethodName := ⟨RX2, "<init>", "()V"⟩
abbrev cX2_has : ByteArray := prog_4_method_2_code
def yX2_has : MethodName := ⟨RX2, "has", "(I)Z"⟩
abbrev cX2_segmentOf : ByteArray := prog_4_method_3_code
def yX2_segmentOf : MethodName := ⟨RX2, "segmentOf", "(I)I"⟩
abbrev cX2_placeOf : ByteArray := prog_4_method_4_code
def yX2_placeOf : MethodName := ⟨RX2, "placeOf", "(I)I"⟩
abbrev cX2_addressOf : ByteArray := prog_4_method_5_code
def yX2_addressOf : MethodName := ⟨RX2, "addressOf", "(I)I"⟩
abbrev cX2_follow : ByteArray := prog_4_method_6_code
def yX2_follow : MethodName := ⟨RX2, "follow", "(IIII)V"⟩
abbrev cX2_clear : ByteArray := prog_4_method_7_code
def yX2_clear : MethodName := ⟨RX2, "clear", "()V"⟩
def RX3 : String := "AgedLog$Log"
def TX3 : u_T := fun k => match k with
  | 0 => ("AgedLog$Log", "index", "LAgedLog$Index;", true)
  | 1 => ("AgedLog$Log", "memory", "[B", true)
  | 2 => ("AgedLog$Log", "states", "[I", true)
  | 3 => ("AgedLog$Log", "hasRecords", "[Z", true)
  | 4 => ("AgedLog$Log", "latestTimes", "[I", true)
  | 5 => ("AgedLog$Log", "fresh", "[I", true)
  | 6 => ("AgedLog$Log", "freshFrom", "[I", true)
  | 7 => ("AgedLog$Log", "freshTo", "[I", true)
  | 8 => ("AgedLog$Log", "freshCount", "I", false)
  | 9 => ("AgedLog$Log", "open", "I", false)
  | 10 => ("AgedLog$Log", "place", "I", false)
  | 11 => ("AgedLog$Log", "order", "I", false)
  | 12 => ("AgedLog$Log", "nextSequence", "I", false)
  | _ => ("AgedLog$Log", "clock", "I", false)
def tyX3 : Nat → FieldType := fun k => match k with
  | 0 => .object "AgedLog$Index"
  | 1 => .array .byte
  | 2 => .array .int
  | 3 => .array .boolean
  | 4 => .array .int
  | 5 => .array .int
  | 6 => .array .int
  | 7 => .array .int
  | 8 => .int
  | 9 => .int
  | 10 => .int
  | 11 => .int
  | 12 => .int
  | _ => .int
abbrev wsX30 : List Cond := u_ws RX3 TX3 14
theorem nmX3 : ∀ a, a < 14 → ∀ b, b < 14 → a ≠ b → (TX3 a).2.1 ≠ (TX3 b).2.1 := by decide +kernel
theorem tyX3_ok : ∀ k, k < 14 → parseFieldDescriptor (TX3 k).2.2.1 = some (tyX3 k) := by decide +kernel
abbrev cX3_init : ByteArray := prog_5_method_1_code
def yX3_init : MethodName := ⟨RX3, "<init>", "(LAgedLog$Index;)V"⟩
abbrev cX3_setAsAtFirst : ByteArray := prog_5_method_2_code
def yX3_setAsAtFirst : MethodName := ⟨RX3, "setAsAtFirst", "()V"⟩
abbrev cX3_stateOf : ByteArray := prog_5_method_3_code
def yX3_stateOf : MethodName := ⟨RX3, "stateOf", "(I)I"⟩
abbrev cX3_isUsed : ByteArray := prog_5_method_4_code
def yX3_isUsed : MethodName := ⟨RX3, "isUsed", "(I)Z"⟩
abbrev cX3_use : ByteArray := prog_5_method_5_code
def yX3_use : MethodName := ⟨RX3, "use", "(I)V"⟩
abbrev cX3_spend : ByteArray := prog_5_method_6_code
def yX3_spend : MethodName := ⟨RX3, "spend", "(I)V"⟩
abbrev cX3_freeSpent : ByteArray := prog_5_method_7_code
def yX3_freeSpent : MethodName := ⟨RX3, "freeSpent", "()V"⟩
abbrev cX3_countFree : ByteArray := prog_5_method_8_code
def yX3_countFree : MethodName := ⟨RX3, "countFree", "()I"⟩
abbrev cX3_orderOf : ByteArray := prog_5_method_9_code
def yX3_orderOf : MethodName := ⟨RX3, "orderOf", "(I)I"⟩
abbrev cX3_latestTimeIn : ByteArray := prog_5_method_10_code
def yX3_latestTimeIn : MethodName := ⟨RX3, "latestTimeIn", "(I)I"⟩
abbrev cX3_forgetTimes : ByteArray := prog_5_method_11_code
def yX3_forgetTimes : MethodName := ⟨RX3, "forgetTimes", "(I)V"⟩
abbrev cX3_noteTime : ByteArray := prog_5_method_12_code
def yX3_noteTime : MethodName := ⟨RX3, "noteTime", "(II)V"⟩
abbrev cX3_lengthOf : ByteArray := prog_5_method_13_code
def yX3_lengthOf : MethodName := ⟨RX3, "lengthOf", "(I)I"⟩
abbrev cX3_sequenceOf : ByteArray := prog_5_method_14_code
def yX3_sequenceOf : MethodName := ⟨RX3, "sequenceOf", "(I)I"⟩
abbrev cX3_timeOf : ByteArray := prog_5_method_15_code
def yX3_timeOf : MethodName := ⟨RX3, "timeOf", "(I)I"⟩
abbrev cX3_liveIn : ByteArray := prog_5_method_16_code
def yX3_liveIn : MethodName := ⟨RX3, "liveIn", "(I)I"⟩
abbrev cX3_fits : ByteArray := prog_5_method_17_code
def yX3_fits : MethodName := ⟨RX3, "fits", "(I)Z"⟩
abbrev cX3_hasRoomFor : ByteArray := prog_5_method_18_code
def yX3_hasRoomFor : MethodName := ⟨RX3, "hasRoomFor", "(I)Z"⟩
abbrev cX3_append : ByteArray := prog_5_method_19_code
def yX3_append : MethodName := ⟨RX3, "append", "(III[BII)I"⟩
abbrev cX3_openNext : ByteArray := prog_5_method_20_code
def yX3_openNext : MethodName := ⟨RX3, "openNext", "()V"⟩
abbrev cX3_leastFree : ByteArray := prog_5_method_21_code
def yX3_leastFree : MethodName := ⟨RX3, "leastFree", "()I"⟩
abbrev cX3_noteFresh : ByteArray := prog_5_method_22_code
def yX3_noteFresh : MethodName := ⟨RX3, "noteFresh", "(I)V"⟩
abbrev cX3_countFreshOctets : ByteArray := prog_5_method_23_code
def yX3_countFreshOctets : MethodName := ⟨RX3, "countFreshOctets", "()I"⟩
abbrev cX3_writeFresh : ByteArray := prog_5_method_24_code
def yX3_writeFresh : MethodName := ⟨RX3, "writeFresh", "(LAgedLog$Disk;)I"⟩
abbrev cX3_writeFreshOf : ByteArray := prog_5_method_25_code
def yX3_writeFreshOf : MethodName := ⟨RX3, "writeFreshOf", "(ILAgedLog$Disk;)I"⟩
abbrev cX3_writeSector : ByteArray := prog_5_method_26_code
def yX3_writeSector : MethodName := ⟨RX3, "writeSector", "(IIILAgedLog$Disk;)Z"⟩
abbrev cX3_loadMemory : ByteArray := prog_5_method_27_code
def yX3_loadMemory : MethodName := ⟨RX3, "loadMemory", "(LAgedLog$Disk;)V"⟩
def RX4 : String := "AgedLog$Octets"
def TX4 : u_T := fun k => match k with
  | _ => ("", "", "", false)
def tyX4 : Nat → FieldType := fun k => match k with
  | _ => .int
abbrev wsX40 : List Cond := u_ws RX4 TX4 0
theorem nmX4 : ∀ a, a < 0 → ∀ b, b < 0 → a ≠ b → (TX4 a).2.1 ≠ (TX4 b).2.1 := by decide +kernel
theorem tyX4_ok : ∀ k, k < 0 → parseFieldDescriptor (TX4 k).2.2.1 = some (tyX4 k) := by decide +kernel
abbrev cX4_isWithin : ByteArray := prog_6_method_2_code
def yX4_isWithin : MethodName := ⟨RX4, "isWithin", "([BII)Z"⟩
abbrev cX4_number : ByteArray := prog_6_method_3_code
def yX4_number : MethodName := ⟨RX4, "number", "([BII)I"⟩
abbrev cX4_setNumber : ByteArray := prog_6_method_4_code
def yX4_setNumber : MethodName := ⟨RX4, "setNumber", "([BIII)V"⟩
abbrev cX4_sum : ByteArray := prog_6_method_5_code
def yX4_sum : MethodName := ⟨RX4, "sum", "([BII)I"⟩
abbrev cX4_setSum : ByteArray := prog_6_method_6_code
def yX4_setSum : MethodName := ⟨RX4, "setSum", "([BII)V"⟩
abbrev cX4_copy : ByteArray := prog_6_method_7_code
def yX4_copy : MethodName := ⟨RX4, "copy", "([BI[BII)V"⟩
abbrev cX4_clear : ByteArray := prog_6_method_8_code
def yX4_clear : MethodName := ⟨RX4, "clear", "([BII)V"⟩
def RX5 : String := "AgedLog$Recovery"
def TX5 : u_T := fun k => match k with
  | 0 => ("AgedLog$Recovery", "drive", "LAgedLog$Disk;", true)
  | 1 => ("AgedLog$Recovery", "log", "LAgedLog$Log;", true)
  | 2 => ("AgedLog$Recovery", "index", "LAgedLog$Index;", true)
  | _ => ("AgedLog$Recovery", "regions", "LAgedLog$Regions;", true)
def tyX5 : Nat → FieldType := fun k => match k with
  | 0 => .object "AgedLog$Disk"
  | 1 => .object "AgedLog$Log"
  | 2 => .object "AgedLog$Index"
  | _ => .object "AgedLog$Regions"
abbrev wsX50 : List Cond := u_ws RX5 TX5 4
theorem nmX5 : ∀ a, a < 4 → ∀ b, b < 4 → a ≠ b → (TX5 a).2.1 ≠ (TX5 b).2.1 := by decide +kernel
theorem tyX5_ok : ∀ k, k < 4 → parseFieldDescriptor (TX5 k).2.2.1 = some (tyX5 k) := by decide +kernel
abbrev cX5_init : ByteArray := prog_7_method_1_code
def yX5_init : MethodName := ⟨RX5, "<init>", "(LAgedLog$Disk;LAgedLog$Log;LAgedLog$Index;LAgedLog$Regions;)V"⟩
abbrev cX5_takeCheckpoint : ByteArray := prog_7_method_2_code
def yX5_takeCheckpoint : MethodName := ⟨RX5, "takeCheckpoint", "()V"⟩
abbrev cX5_loadIndex : ByteArray := prog_7_method_3_code
def yX5_loadIndex : MethodName := ⟨RX5, "loadIndex", "(I)V"⟩
abbrev cX5_isPutOf : ByteArray := prog_7_method_4_code
def yX5_isPutOf : MethodName := ⟨RX5, "isPutOf", "(III)Z"⟩
abbrev cX5_endOf : ByteArray := prog_7_method_5_code
def yX5_endOf : MethodName := ⟨RX5, "endOf", "(I)I"⟩
abbrev cX5_goThrough : ByteArray := prog_7_method_6_code
def yX5_goThrough : MethodName := ⟨RX5, "goThrough", "()I"⟩
abbrev cX5_findNext : ByteArray := prog_7_method_7_code
def yX5_findNext : MethodName := ⟨RX5, "findNext", "()Z"⟩
abbrev cX5_isNext : ByteArray := prog_7_method_8_code
def yX5_isNext : MethodName := ⟨RX5, "isNext", "(II)Z"⟩
abbrev cX5_hasNextHead : ByteArray := prog_7_method_9_code
def yX5_hasNextHead : MethodName := ⟨RX5, "hasNextHead", "(I)Z"⟩
abbrev cX5_followRecord : ByteArray := prog_7_method_10_code
def yX5_followRecord : MethodName := ⟨RX5, "followRecord", "()V"⟩
abbrev cX5_fillMemory : ByteArray := prog_7_method_11_code
def yX5_fillMemory : MethodName := ⟨RX5, "fillMemory", "()V"⟩
abbrev cX5_readTimesOf : ByteArray := prog_7_method_12_code
def yX5_readTimesOf : MethodName := ⟨RX5, "readTimesOf", "(I)V"⟩
abbrev cX5_kindAt : ByteArray := prog_7_method_13_code
def yX5_kindAt : MethodName := ⟨RX5, "kindAt", "(II)I"⟩
abbrev cX5_keyAt : ByteArray := prog_7_method_14_code
def yX5_keyAt : MethodName := ⟨RX5, "keyAt", "(II)I"⟩
abbrev cX5_valueLengthAt : ByteArray := prog_7_method_15_code
def yX5_valueLengthAt : MethodName := ⟨RX5, "valueLengthAt", "(II)I"⟩
abbrev cX5_timeAt : ByteArray := prog_7_method_16_code
def yX5_timeAt : MethodName := ⟨RX5, "timeAt", "(II)I"⟩
abbrev cX5_rightLength : ByteArray := prog_7_method_17_code
def yX5_rightLength : MethodName := ⟨RX5, "rightLength", "(II)I"⟩
def RX6 : String := "AgedLog$Regions"
def TX6 : u_T := fun k => match k with
  | 0 => ("AgedLog$Regions", "drive", "LAgedLog$Disk;", true)
  | 1 => ("AgedLog$Regions", "log", "LAgedLog$Log;", true)
  | 2 => ("AgedLog$Regions", "index", "LAgedLog$Index;", true)
  | 3 => ("AgedLog$Regions", "row", "[B", true)
  | 4 => ("AgedLog$Regions", "number", "I", false)
  | _ => ("AgedLog$Regions", "turn", "I", false)
def tyX6 : Nat → FieldType := fun k => match k with
  | 0 => .object "AgedLog$Disk"
  | 1 => .object "AgedLog$Log"
  | 2 => .object "AgedLog$Index"
  | 3 => .array .byte
  | 4 => .int
  | _ => .int
abbrev wsX60 : List Cond := u_ws RX6 TX6 6
theorem nmX6 : ∀ a, a < 6 → ∀ b, b < 6 → a ≠ b → (TX6 a).2.1 ≠ (TX6 b).2.1 := by decide +kernel
theorem tyX6_ok : ∀ k, k < 6 → parseFieldDescriptor (TX6 k).2.2.1 = some (tyX6 k) := by decide +kernel
abbrev cX6_init : ByteArray := prog_8_method_1_code
def yX6_init : MethodName := ⟨RX6, "<init>", "(LAgedLog$Disk;LAgedLog$Log;LAgedLog$Index;)V"⟩
abbrev cX6_setAsAtFirst : ByteArray := prog_8_method_2_code
def yX6_setAsAtFirst : MethodName := ⟨RX6, "setAsAtFirst", "()V"⟩
abbrev cX6_write : ByteArray := prog_8_method_3_code
def yX6_write : MethodName := ⟨RX6, "write", "()Z"⟩
abbrev cX6_fillRow : ByteArray := prog_8_method_4_code
def yX6_fillRow : MethodName := ⟨RX6, "fillRow", "()I"⟩
abbrev cX6_newest : ByteArray := prog_8_method_5_code
def yX6_newest : MethodName := ⟨RX6, "newest", "()I"⟩
abbrev cX6_numberAt : ByteArray := prog_8_method_6_code
def yX6_numberAt : MethodName := ⟨RX6, "numberAt", "(III)I"⟩
abbrev cX6_isRight : ByteArray := prog_8_method_7_code
def yX6_isRight : MethodName := ⟨RX6, "isRight", "(I)Z"⟩
abbrev cX6_areNumbersRight : ByteArray := prog_8_method_8_code
def yX6_areNumbersRight : MethodName := ⟨RX6, "areNumbersRight", "(I)Z"⟩
abbrev cX6_isOpenRight : ByteArray := prog_8_method_9_code
def yX6_isOpenRight : MethodName := ⟨RX6, "isOpenRight", "(I)Z"⟩
abbrev cX6_areKeysRight : ByteArray := prog_8_method_10_code
def yX6_areKeysRight : MethodName := ⟨RX6, "areKeysRight", "(II)Z"⟩
abbrev cX6_areFlagsRight : ByteArray := prog_8_method_11_code
def yX6_areFlagsRight : MethodName := ⟨RX6, "areFlagsRight", "(II)Z"⟩
abbrev cX6_load : ByteArray := prog_8_method_12_code
def yX6_load : MethodName := ⟨RX6, "load", "(I)V"⟩
abbrev cX6_countOf : ByteArray := prog_8_method_13_code
def yX6_countOf : MethodName := ⟨RX6, "countOf", "(I)I"⟩
abbrev cX6_keyOf : ByteArray := prog_8_method_14_code
def yX6_keyOf : MethodName := ⟨RX6, "keyOf", "(II)I"⟩
abbrev cX6_segmentOf : ByteArray := prog_8_method_15_code
def yX6_segmentOf : MethodName := ⟨RX6, "segmentOf", "(II)I"⟩
abbrev cX6_placeOf : ByteArray := prog_8_method_16_code
def yX6_placeOf : MethodName := ⟨RX6, "placeOf", "(II)I"⟩
def RX7 : String := "AgedLog"
def TX7 : u_T := fun k => match k with
  | 0 => ("AgedLog", "drive", "LAgedLog$Disk;", true)
  | 1 => ("AgedLog", "index", "LAgedLog$Index;", true)
  | 2 => ("AgedLog", "log", "LAgedLog$Log;", true)
  | 3 => ("AgedLog", "cleaner", "LAgedLog$Cleaner;", true)
  | 4 => ("AgedLog", "regions", "LAgedLog$Regions;", true)
  | 5 => ("AgedLog", "recovery", "LAgedLog$Recovery;", true)
  | 6 => ("AgedLog", "hand", "[B", true)
  | 7 => ("AgedLog", "handLength", "I", false)
  | _ => ("AgedLog", "down", "Z", false)
def tyX7 : Nat → FieldType := fun k => match k with
  | 0 => .object "AgedLog$Disk"
  | 1 => .object "AgedLog$Index"
  | 2 => .object "AgedLog$Log"
  | 3 => .object "AgedLog$Cleaner"
  | 4 => .object "AgedLog$Regions"
  | 5 => .object "AgedLog$Recovery"
  | 6 => .array .byte
  | 7 => .int
  | _ => .boolean
abbrev wsX70 : List Cond := u_ws RX7 TX7 9
theorem nmX7 : ∀ a, a < 9 → ∀ b, b < 9 → a ≠ b → (TX7 a).2.1 ≠ (TX7 b).2.1 := by decide +kernel
theorem tyX7_ok : ∀ k, k < 9 → parseFieldDescriptor (TX7 k).2.2.1 = some (tyX7 k) := by decide +kernel
abbrev cX7_init : ByteArray := prog_1_method_1_code
def yX7_init : MethodName := ⟨RX7, "<init>", "()V"⟩
abbrev cX7_feed : ByteArray := prog_1_method_2_code
def yX7_feed : MethodName := ⟨RX7, "feed", "(JI)I"⟩
abbrev cX7_put : ByteArray := prog_1_method_3_code
def yX7_put : MethodName := ⟨RX7, "put", "(I)I"⟩
abbrev cX7_remove : ByteArray := prog_1_method_4_code
def yX7_remove : MethodName := ⟨RX7, "remove", "(I)I"⟩
abbrev cX7_size : ByteArray := prog_1_method_5_code
def yX7_size : MethodName := ⟨RX7, "size", "(I)I"⟩
abbrev cX7_value : ByteArray := prog_1_method_6_code
def yX7_value : MethodName := ⟨RX7, "value", "(II)I"⟩
abbrev cX7_sync : ByteArray := prog_1_method_7_code
def yX7_sync : MethodName := ⟨RX7, "sync", "()I"⟩
abbrev cX7_checkpoint : ByteArray := prog_1_method_8_code
def yX7_checkpoint : MethodName := ⟨RX7, "checkpoint", "()I"⟩
abbrev cX7_clean : ByteArray := prog_1_method_9_code
def yX7_clean : MethodName := ⟨RX7, "clean", "(I)I"⟩
abbrev cX7_tick : ByteArray := prog_1_method_10_code
def yX7_tick : MethodName := ⟨RX7, "tick", "(I)I"⟩
abbrev cX7_cut : ByteArray := prog_1_method_11_code
def yX7_cut : MethodName := ⟨RX7, "cut", "(II)I"⟩
abbrev cX7_start : ByteArray := prog_1_method_12_code
def yX7_start : MethodName := ⟨RX7, "start", "()I"⟩
abbrev cX7_disk : ByteArray := prog_1_method_13_code
def yX7_disk : MethodName := ⟨RX7, "disk", "(II)I"⟩
abbrev cX7_poke : ByteArray := prog_1_method_14_code
def yX7_poke : MethodName := ⟨RX7, "poke", "(III)I"⟩
abbrev cX7_segment : ByteArray := prog_1_method_15_code
def yX7_segment : MethodName := ⟨RX7, "segment", "(II)I"⟩
abbrev cX7_where : ByteArray := prog_1_method_16_code
def yX7_where : MethodName := ⟨RX7, "where", "(II)I"⟩
abbrev cX7_told : ByteArray := prog_1_method_17_code
def yX7_told : MethodName := ⟨RX7, "told", "(I)I"⟩
abbrev cX7_toldWhileUp : ByteArray := prog_1_method_18_code
def yX7_toldWhileUp : MethodName := ⟨RX7, "toldWhileUp", "(I)I"⟩
abbrev cX7_isKey : ByteArray := prog_1_method_19_code
def yX7_isKey : MethodName := ⟨RX7, "isKey", "(I)Z"⟩
abbrev cX7_isOfLog : ByteArray := prog_1_method_20_code
def yX7_isOfLog : MethodName := ⟨RX7, "isOfLog", "(I)Z"⟩
abbrev cX7_isOctet : ByteArray := prog_1_method_21_code
def yX7_isOctet : MethodName := ⟨RX7, "isOctet", "(II)Z"⟩
def RX8 : String := "AgedLogModel"
def TX8 : u_T := fun k => match k with
  | 0 => ("AgedLogModel", "code", "I", false)
  | 1 => ("AgedLogModel", "down", "Z", false)
  | 2 => ("AgedLogModel", "disk", "[B", true)
  | 3 => ("AgedLogModel", "memory", "[B", true)
  | 4 => ("AgedLogModel", "torn", "[Z", true)
  | 5 => ("AgedLogModel", "state", "[I", true)
  | 6 => ("AgedLogModel", "open", "I", false)
  | 7 => ("AgedLogModel", "place", "I", false)
  | 8 => ("AgedLogModel", "order", "I", false)
  | 9 => ("AgedLogModel", "sequence", "I", false)
  | 10 => ("AgedLogModel", "clock", "I", false)
  | 11 => ("AgedLogModel", "number", "I", false)
  | 12 => ("AgedLogModel", "turn", "I", false)
  | 13 => ("AgedLogModel", "sectors", "I", false)
  | 14 => ("AgedLogModel", "cutAt", "I", false)
  | 15 => ("AgedLogModel", "cutFirst", "I", false)
  | 16 => ("AgedLogModel", "kSegment", "[I", true)
  | 17 => ("AgedLogModel", "kAt", "[I", true)
  | 18 => ("AgedLogModel", "dirty", "I", false)
  | 19 => ("AgedLogModel", "dSegment", "[I", true)
  | 20 => ("AgedLogModel", "dFrom", "[I", true)
  | 21 => ("AgedLogModel", "dTo", "[I", true)
  | 22 => ("AgedLogModel", "hand", "[B", true)
  | 23 => ("AgedLogModel", "handSize", "I", false)
  | 24 => ("AgedLogModel", "made", "[B", true)
  | 25 => ("AgedLogModel", "size", "I", false)
  | 26 => ("AgedLogModel", "young", "[I", true)
  | 27 => ("AgedLogModel", "value", "[B", true)
  | 28 => ("AgedLogModel", "taken", "[Z", true)
  | _ => ("AgedLogModel", "sorted", "[I", true)
def tyX8 : Nat → FieldType := fun k => match k with
  | 0 => .int
  | 1 => .boolean
  | 2 => .array .byte
  | 3 => .array .byte
  | 4 => .array .boolean
  | 5 => .array .int
  | 6 => .int
  | 7 => .int
  | 8 => .int
  | 9 => .int
  | 10 => .int
  | 11 => .int
  | 12 => .int
  | 13 => .int
  | 14 => .int
  | 15 => .int
  | 16 => .array .int
  | 17 => .array .int
  | 18 => .int
  | 19 => .array .int
  | 20 => .array .int
  | 21 => .array .int
  | 22 => .array .byte
  | 23 => .int
  | 24 => .array .byte
  | 25 => .int
  | 26 => .array .int
  | 27 => .array .byte
  | 28 => .array .boolean
  | _ => .array .int
abbrev wsX80 : List Cond := u_ws RX8 TX8 30
theorem nmX8 : ∀ a, a < 30 → ∀ b, b < 30 → a ≠ b → (TX8 a).2.1 ≠ (TX8 b).2.1 := by decide +kernel
theorem tyX8_ok : ∀ k, k < 30 → parseFieldDescriptor (TX8 k).2.2.1 = some (tyX8 k) := by decide +kernel
abbrev cX8_init : ByteArray := prog_10_method_1_code
def yX8_init : MethodName := ⟨RX8, "<init>", "()V"⟩
abbrev cX8_in : ByteArray := prog_10_method_3_code
def yX8_in : MethodName := ⟨RX8, "in", "(III)Z"⟩
abbrev cX8_sum : ByteArray := prog_10_method_4_code
def yX8_sum : MethodName := ⟨RX8, "sum", "([BII)I"⟩
abbrev cX8_number : ByteArray := prog_10_method_5_code
def yX8_number : MethodName := ⟨RX8, "number", "([BII)I"⟩
abbrev cX8_isTorn : ByteArray := prog_10_method_6_code
def yX8_isTorn : MethodName := ⟨RX8, "isTorn", "(II)Z"⟩
abbrev cX8_octets : ByteArray := prog_10_method_7_code
def yX8_octets : MethodName := ⟨RX8, "octets", "(II)V"⟩
abbrev cX8_at : ByteArray := prog_10_method_8_code
def yX8_at : MethodName := ⟨RX8, "at", "(II)I"⟩
abbrev cX8_right : ByteArray := prog_10_method_9_code
def yX8_right : MethodName := ⟨RX8, "right", "(III)I"⟩
abbrev cX8_endOf : ByteArray := prog_10_method_10_code
def yX8_endOf : MethodName := ⟨RX8, "endOf", "(I)I"⟩
abbrev cX8_standing : ByteArray := prog_10_method_11_code
def yX8_standing : MethodName := ⟨RX8, "standing", "(I)I"⟩
abbrev cX8_recordSize : ByteArray := prog_10_method_12_code
def yX8_recordSize : MethodName := ⟨RX8, "recordSize", "(I)I"⟩
abbrev cX8_lives : ByteArray := prog_10_method_13_code
def yX8_lives : MethodName := ⟨RX8, "lives", "(I)I"⟩
abbrev cX8_frees : ByteArray := prog_10_method_14_code
def yX8_frees : MethodName := ⟨RX8, "frees", "()I"⟩
abbrev cX8_came : ByteArray := prog_10_method_15_code
def yX8_came : MethodName := ⟨RX8, "came", "(III)V"⟩
abbrev cX8_openNext : ByteArray := prog_10_method_16_code
def yX8_openNext : MethodName := ⟨RX8, "openNext", "()V"⟩
abbrev cX8_opens : ByteArray := prog_10_method_17_code
def yX8_opens : MethodName := ⟨RX8, "opens", "(I)Z"⟩
abbrev cX8_record : ByteArray := prog_10_method_18_code
def yX8_record : MethodName := ⟨RX8, "record", "(IIII)V"⟩
abbrev cX8_feed : ByteArray := prog_10_method_19_code
def yX8_feed : MethodName := ⟨RX8, "feed", "(JI)I"⟩
abbrev cX8_put : ByteArray := prog_10_method_20_code
def yX8_put : MethodName := ⟨RX8, "put", "(I)I"⟩
abbrev cX8_none : ByteArray := prog_10_method_21_code
def yX8_none : MethodName := ⟨RX8, "none", "(I)Z"⟩
abbrev cX8_remove : ByteArray := prog_10_method_22_code
def yX8_remove : MethodName := ⟨RX8, "remove", "(I)I"⟩
abbrev cX8_size : ByteArray := prog_10_method_23_code
def yX8_size : MethodName := ⟨RX8, "size", "(I)I"⟩
abbrev cX8_value : ByteArray := prog_10_method_24_code
def yX8_value : MethodName := ⟨RX8, "value", "(II)I"⟩
abbrev cX8_write : ByteArray := prog_10_method_25_code
def yX8_write : MethodName := ⟨RX8, "write", "([BIII)Z"⟩
abbrev cX8_syncAll : ByteArray := prog_10_method_26_code
def yX8_syncAll : MethodName := ⟨RX8, "syncAll", "()I"⟩
abbrev cX8_sync : ByteArray := prog_10_method_27_code
def yX8_sync : MethodName := ⟨RX8, "sync", "()I"⟩
abbrev cX8_checkpoint : ByteArray := prog_10_method_28_code
def yX8_checkpoint : MethodName := ⟨RX8, "checkpoint", "()I"⟩
abbrev cX8_keys : ByteArray := prog_10_method_29_code
def yX8_keys : MethodName := ⟨RX8, "keys", "()I"⟩
abbrev cX8_timeOf : ByteArray := prog_10_method_30_code
def yX8_timeOf : MethodName := ⟨RX8, "timeOf", "(I)I"⟩
abbrev cX8_sequenceOf : ByteArray := prog_10_method_31_code
def yX8_sequenceOf : MethodName := ⟨RX8, "sequenceOf", "(I)I"⟩
abbrev cX8_best : ByteArray := prog_10_method_32_code
def yX8_best : MethodName := ⟨RX8, "best", "()I"⟩
abbrev cX8_clean : ByteArray := prog_10_method_33_code
def yX8_clean : MethodName := ⟨RX8, "clean", "(I)I"⟩
abbrev cX8_tick : ByteArray := prog_10_method_34_code
def yX8_tick : MethodName := ⟨RX8, "tick", "(I)I"⟩
abbrev cX8_cut : ByteArray := prog_10_method_35_code
def yX8_cut : MethodName := ⟨RX8, "cut", "(II)I"⟩
abbrev cX8_isRight : ByteArray := prog_10_method_36_code
def yX8_isRight : MethodName := ⟨RX8, "isRight", "(I)Z"⟩
abbrev cX8_load : ByteArray := prog_10_method_37_code
def yX8_load : MethodName := ⟨RX8, "load", "(I)V"⟩
abbrev cX8_counts : ByteArray := prog_10_method_38_code
def yX8_counts : MethodName := ⟨RX8, "counts", "(II)Z"⟩
abbrev cX8_goesOn : ByteArray := prog_10_method_39_code
def yX8_goesOn : MethodName := ⟨RX8, "goesOn", "()Z"⟩
abbrev cX8_start : ByteArray := prog_10_method_40_code
def yX8_start : MethodName := ⟨RX8, "start", "()I"⟩
abbrev cX8_disk : ByteArray := prog_10_method_41_code
def yX8_disk : MethodName := ⟨RX8, "disk", "(II)I"⟩
abbrev cX8_poke : ByteArray := prog_10_method_42_code
def yX8_poke : MethodName := ⟨RX8, "poke", "(III)I"⟩
abbrev cX8_segment : ByteArray := prog_10_method_43_code
def yX8_segment : MethodName := ⟨RX8, "segment", "(II)I"⟩
abbrev cX8_where : ByteArray := prog_10_method_44_code
def yX8_where : MethodName := ⟨RX8, "where", "(II)I"⟩
abbrev cX8_told : ByteArray := prog_10_method_45_code
def yX8_told : MethodName := ⟨RX8, "told", "(I)I"⟩
def RJ6 : String := "java/lang/Integer"
def TJ6 : u_T := fun k => match k with
  | _ => ("", "", "", false)
def tyJ6 : Nat → FieldType := fun k => match k with
  | _ => .int
abbrev wsJ60 : List Cond := u_ws RJ6 TJ6 0
theorem nmJ6 : ∀ a, a < 0 → ∀ b, b < 0 → a ≠ b → (TJ6 a).2.1 ≠ (TJ6 b).2.1 := by decide +kernel
theorem tyJ6_ok : ∀ k, k < 0 → parseFieldDescriptor (TJ6 k).2.2.1 = some (tyJ6 k) := by decide +kernel
abbrev cJ6_rotateLeft_7cf53 : ByteArray := prog_11_method_50_code
def yJ6_rotateLeft_7cf53 : MethodName := ⟨RJ6, "rotateLeft", "(II)I"⟩
def RJ9 : String := "java/lang/Math"
def TJ9 : u_T := fun k => match k with
  | _ => ("", "", "", false)
def tyJ9 : Nat → FieldType := fun k => match k with
  | _ => .int
abbrev wsJ90 : List Cond := u_ws RJ9 TJ9 0
theorem nmJ9 : ∀ a, a < 0 → ∀ b, b < 0 → a ≠ b → (TJ9 a).2.1 ≠ (TJ9 b).2.1 := by decide +kernel
theorem tyJ9_ok : ∀ k, k < 0 → parseFieldDescriptor (TJ9 k).2.2.1 = some (tyJ9 k) := by decide +kernel
abbrev cJ9_max_7cf53 : ByteArray := prog_12_method_65_code
def yJ9_max_7cf53 : MethodName := ⟨RJ9, "max", "(II)I"⟩
abbrev cJ9_min_7cf53 : ByteArray := prog_12_method_69_code
def yJ9_min_7cf53 : MethodName := ⟨RJ9, "min", "(II)I"⟩
def RJ10 : String := "java/lang/System"
def TJ10 : u_T := fun k => match k with
  | _ => ("", "", "", false)
def tyJ10 : Nat → FieldType := fun k => match k with
  | _ => .int
abbrev wsJ100 : List Cond := u_ws RJ10 TJ10 0
theorem nmJ10 : ∀ a, a < 0 → ∀ b, b < 0 → a ≠ b → (TJ10 a).2.1 ≠ (TJ10 b).2.1 := by decide +kernel
theorem tyJ10_ok : ∀ k, k < 0 → parseFieldDescriptor (TJ10 k).2.2.1 = some (tyJ10 k) := by decide +kernel
def RJ7 : String := "java/util/Arrays"
def TJ7 : u_T := fun k => match k with
  | _ => ("", "", "", false)
def tyJ7 : Nat → FieldType := fun k => match k with
  | _ => .int
abbrev wsJ70 : List Cond := u_ws RJ7 TJ7 0
theorem nmJ7 : ∀ a, a < 0 → ∀ b, b < 0 → a ≠ b → (TJ7 a).2.1 ≠ (TJ7 b).2.1 := by decide +kernel
theorem tyJ7_ok : ∀ k, k < 0 → parseFieldDescriptor (TJ7 k).2.2.1 = some (tyJ7 k) := by decide +kernel
abbrev cJ7_fill_53178 : ByteArray := prog_14_method_103_code
def yJ7_fill_53178 : MethodName := ⟨RJ7, "fill", "([II)V"⟩
abbrev cJ7_fill_031fb : ByteArray := prog_14_method_109_code
def yJ7_fill_031fb : MethodName := ⟨RJ7, "fill", "([BB)V"⟩
def RL : String := "AgedLogLaw"
abbrev cL_law : ByteArray := code
def yL_law : MethodName := ⟨RL, "law", "([I)Z"⟩
end
section
def wsX0_init : List Cond := .code yX0_init cX0_init 3 none :: ([.methodLink RX0 3 objectInit, .instanceMethod objectInit, .code objectInit ⟨#[0xb1]⟩ 1 none, .arrayClass .boolean, .fieldLink RX0 9 "AgedLog$Cleaner" "chosen" "[Z", .arrayClass .int, .fieldLink RX0 15 "AgedLog$Cleaner" "live" "[I", .fieldLink RX0 19 "AgedLog$Cleaner" "aged" "[I", .fieldLink RX0 22 "AgedLog$Cleaner" "agedCount" "I", .fieldLink RX0 26 "AgedLog$Cleaner" "log" "LAgedLog$Log;", .fieldLink RX0 30 "AgedLog$Cleaner" "index" "LAgedLog$Index;"] ++ wsX00)
def wsX0_forgetChosen : List Cond := .code yX0_forgetChosen cX0_forgetChosen 2 none :: ([.fieldLink RX0 9 "AgedLog$Cleaner" "chosen" "[Z"] ++ wsX00)
def wsJ7_fill_53178 : List Cond := .code yJ7_fill_53178 cJ7_fill_53178 4 none :: ([])
def wsX7_isKey : List Cond := .code yX7_isKey cX7_isKey 1 (some .boolean) :: ([])
def wsX7_isOfLog : List Cond := .code yX7_isOfLog cX7_isOfLog 1 (some .boolean) :: ([])
def wsX2_has : List Cond := .code yX2_has cX2_has 2 (some .boolean) :: ([.fieldLink RX2 9 "AgedLog$Index" "segments" "[I", .static yX7_isKey, .initialized RX7, .code yX7_isKey cX7_isKey 1 (some .boolean), .static yX7_isOfLog, .code yX7_isOfLog cX7_isOfLog 1 (some .boolean)] ++ wsX20)
def wsX2_segmentOf : List Cond := .code yX2_segmentOf cX2_segmentOf 2 (some .int) :: ([.fieldLink RX2 9 "AgedLog$Index" "segments" "[I", .static yX7_isKey, .initialized RX7, .code yX7_isKey cX7_isKey 1 (some .boolean)] ++ wsX20)
def wsX2_addressOf : List Cond := .code yX2_addressOf cX2_addressOf 2 (some .int) :: ([.fieldLink RX2 9 "AgedLog$Index" "segments" "[I", .fieldLink RX2 15 "AgedLog$Index" "places" "[I", .static yX7_isKey, .initialized RX7, .code yX7_isKey cX7_isKey 1 (some .boolean)] ++ wsX20)
def wsX4_isWithin : List Cond := .code yX4_isWithin cX4_isWithin 3 (some .boolean) :: ([])
def wsX4_number : List Cond := .code yX4_number cX4_number 5 (some .int) :: ([.methodLink RX4 7 yX4_isWithin, .static yX4_isWithin, .initialized RX4, .code yX4_isWithin cX4_isWithin 3 (some .boolean)])
def wsX3_lengthOf : List Cond := .code yX3_lengthOf cX3_lengthOf 2 (some .int) :: ([.fieldLink RX3 10 "AgedLog$Log" "memory" "[B", .fieldLink RX3 55 "AgedLog$Log" "index" "LAgedLog$Index;", .methodLink RX3 75 yX2_addressOf, .instanceMethod yX2_addressOf, .selects RX2 yX2_addressOf yX2_addressOf, .initialized RX2, .code yX2_addressOf cX2_addressOf 2 (some .int), .fieldLink RX2 9 "AgedLog$Index" "segments" "[I", .fieldLink RX2 15 "AgedLog$Index" "places" "[I", .static yX7_isKey, .initialized RX7, .code yX7_isKey cX7_isKey 1 (some .boolean), .methodLink RX3 69 yX4_number, .static yX4_number, .initialized RX4, .code yX4_number cX4_number 5 (some .int), .methodLink RX4 7 yX4_isWithin, .static yX4_isWithin, .code yX4_isWithin cX4_isWithin 3 (some .boolean)] ++ wsX30 ++ wsX20)
def wsX0_weighLive_r1 : List Cond := [Cond.fieldLink RX0 15 "AgedLog$Cleaner" "live" "[I", Cond.fieldLink RX0 30 "AgedLog$Cleaner" "index" "LAgedLog$Index;", Cond.fieldLink RX0 26 "AgedLog$Cleaner" "log" "LAgedLog$Log;", Cond.methodLink RX0 66 yJ7_fill_53178, Cond.static yJ7_fill_53178, Cond.initialized RJ7, Cond.code yJ7_fill_53178 cJ7_fill_53178 4 none, Cond.methodLink RX0 72 yX2_has, Cond.instanceMethod yX2_has, Cond.selects RX2 yX2_has yX2_has, Cond.initialized RX2, Cond.code yX2_has cX2_has 2 (some .boolean), Cond.fieldLink RX2 9 "AgedLog$Index" "segments" "[I", Cond.static yX7_isKey, Cond.initialized RX7, Cond.code yX7_isKey cX7_isKey 1 (some .boolean), Cond.static yX7_isOfLog, Cond.code yX7_isOfLog cX7_isOfLog 1 (some .boolean), Cond.methodLink RX0 78 yX2_segmentOf, Cond.instanceMethod yX2_segmentOf, Cond.selects RX2 yX2_segmentOf yX2_segmentOf, Cond.code yX2_segmentOf cX2_segmentOf 2 (some .int), Cond.methodLink RX0 81 yX3_lengthOf, Cond.instanceMethod yX3_lengthOf]
def wsX0_weighLive_r2 : List Cond := [Cond.selects RX3 yX3_lengthOf yX3_lengthOf, Cond.initialized RX3, Cond.code yX3_lengthOf cX3_lengthOf 2 (some .int), Cond.fieldLink RX3 10 "AgedLog$Log" "memory" "[B", Cond.fieldLink RX3 55 "AgedLog$Log" "index" "LAgedLog$Index;", Cond.methodLink RX3 75 yX2_addressOf, Cond.instanceMethod yX2_addressOf, Cond.selects RX2 yX2_addressOf yX2_addressOf, Cond.code yX2_addressOf cX2_addressOf 2 (some .int), Cond.fieldLink RX2 15 "AgedLog$Index" "places" "[I", Cond.methodLink RX3 69 yX4_number, Cond.static yX4_number, Cond.initialized RX4, Cond.code yX4_number cX4_number 5 (some .int), Cond.methodLink RX4 7 yX4_isWithin, Cond.static yX4_isWithin, Cond.code yX4_isWithin cX4_isWithin 3 (some .boolean)]
def wsX0_weighLive : List Cond := .code yX0_weighLive cX0_weighLive 2 none :: ((wsX0_weighLive_r1 ++ wsX0_weighLive_r2) ++ wsX00 ++ wsX20 ++ wsX30)
def wsX3_stateOf : List Cond := .code yX3_stateOf cX3_stateOf 2 (some .int) :: ([.fieldLink RX3 40 "AgedLog$Log" "open" "I", .fieldLink RX3 16 "AgedLog$Log" "states" "[I", .static yX7_isOfLog, .initialized RX7, .code yX7_isOfLog cX7_isOfLog 1 (some .boolean)] ++ wsX30)
def wsX3_latestTimeIn : List Cond := .code yX3_latestTimeIn cX3_latestTimeIn 2 (some .int) :: ([.fieldLink RX3 20 "AgedLog$Log" "hasRecords" "[Z", .fieldLink RX3 24 "AgedLog$Log" "latestTimes" "[I", .static yX7_isOfLog, .initialized RX7, .code yX7_isOfLog cX7_isOfLog 1 (some .boolean)] ++ wsX30)
def wsX0_ageOf : List Cond := .code yX0_ageOf cX0_ageOf 2 (some .long) :: ([.fieldLink RX0 26 "AgedLog$Cleaner" "log" "LAgedLog$Log;", .methodLink RX0 98 yX3_latestTimeIn, .instanceMethod yX3_latestTimeIn, .selects RX3 yX3_latestTimeIn yX3_latestTimeIn, .initialized RX3, .code yX3_latestTimeIn cX3_latestTimeIn 2 (some .int), .fieldLink RX3 20 "AgedLog$Log" "hasRecords" "[Z", .fieldLink RX3 24 "AgedLog$Log" "latestTimes" "[I", .static yX7_isOfLog, .initialized RX7, .code yX7_isOfLog cX7_isOfLog 1 (some .boolean)] ++ wsX00 ++ wsX30)
def wsX0_isWorthMore : List Cond := .code yX0_isWorthMore cX0_isWorthMore 7 (some .boolean) :: ([.fieldLink RX0 15 "AgedLog$Cleaner" "live" "[I", .methodLink RX0 91 yX0_ageOf, .instanceMethod yX0_ageOf, .selects RX0 yX0_ageOf yX0_ageOf, .initialized RX0, .code yX0_ageOf cX0_ageOf 2 (some .long), .fieldLink RX0 26 "AgedLog$Cleaner" "log" "LAgedLog$Log;", .methodLink RX0 98 yX3_latestTimeIn, .instanceMethod yX3_latestTimeIn, .selects RX3 yX3_latestTimeIn yX3_latestTimeIn, .initialized RX3, .code yX3_latestTimeIn cX3_latestTimeIn 2 (some .int), .fieldLink RX3 20 "AgedLog$Log" "hasRecords" "[Z", .fieldLink RX3 24 "AgedLog$Log" "latestTimes" "[I", .static yX7_isOfLog, .initialized RX7, .code yX7_isOfLog cX7_isOfLog 1 (some .boolean)] ++ wsX00 ++ wsX30)
def wsX0_bestLeft_r1 : List Cond := [Cond.fieldLink RX0 26 "AgedLog$Cleaner" "log" "LAgedLog$Log;", Cond.fieldLink RX0 9 "AgedLog$Cleaner" "chosen" "[Z", Cond.methodLink RX0 84 yX3_stateOf, Cond.instanceMethod yX3_stateOf, Cond.selects RX3 yX3_stateOf yX3_stateOf, Cond.initialized RX3, Cond.code yX3_stateOf cX3_stateOf 2 (some .int), Cond.fieldLink RX3 40 "AgedLog$Log" "open" "I", Cond.fieldLink RX3 16 "AgedLog$Log" "states" "[I", Cond.static yX7_isOfLog, Cond.initialized RX7, Cond.code yX7_isOfLog cX7_isOfLog 1 (some .boolean), Cond.methodLink RX0 87 yX0_isWorthMore, Cond.instanceMethod yX0_isWorthMore, Cond.selects RX0 yX0_isWorthMore yX0_isWorthMore, Cond.initialized RX0, Cond.code yX0_isWorthMore cX0_isWorthMore 7 (some .boolean), Cond.fieldLink RX0 15 "AgedLog$Cleaner" "live" "[I", Cond.methodLink RX0 91 yX0_ageOf, Cond.instanceMethod yX0_ageOf, Cond.selects RX0 yX0_ageOf yX0_ageOf, Cond.code yX0_ageOf cX0_ageOf 2 (some .long), Cond.methodLink RX0 98 yX3_latestTimeIn, Cond.instanceMethod yX3_latestTimeIn]
def wsX0_bestLeft_r2 : List Cond := [Cond.selects RX3 yX3_latestTimeIn yX3_latestTimeIn, Cond.code yX3_latestTimeIn cX3_latestTimeIn 2 (some .int), Cond.fieldLink RX3 20 "AgedLog$Log" "hasRecords" "[Z", Cond.fieldLink RX3 24 "AgedLog$Log" "latestTimes" "[I"]
def wsX0_bestLeft : List Cond := .code yX0_bestLeft cX0_bestLeft 4 (some .int) :: ((wsX0_bestLeft_r1 ++ wsX0_bestLeft_r2) ++ wsX00 ++ wsX30)
def wsX0_choose_r1 : List Cond := [Cond.fieldLink RX0 9 "AgedLog$Cleaner" "chosen" "[Z", Cond.methodLink RX0 57 yX0_forgetChosen, Cond.instanceMethod yX0_forgetChosen, Cond.selects RX0 yX0_forgetChosen yX0_forgetChosen, Cond.initialized RX0, Cond.code yX0_forgetChosen cX0_forgetChosen 2 none, Cond.methodLink RX0 60 yX0_weighLive, Cond.instanceMethod yX0_weighLive, Cond.selects RX0 yX0_weighLive yX0_weighLive, Cond.code yX0_weighLive cX0_weighLive 2 none, Cond.fieldLink RX0 15 "AgedLog$Cleaner" "live" "[I", Cond.fieldLink RX0 30 "AgedLog$Cleaner" "index" "LAgedLog$Index;", Cond.fieldLink RX0 26 "AgedLog$Cleaner" "log" "LAgedLog$Log;", Cond.methodLink RX0 66 yJ7_fill_53178, Cond.static yJ7_fill_53178, Cond.initialized RJ7, Cond.code yJ7_fill_53178 cJ7_fill_53178 4 none, Cond.methodLink RX0 72 yX2_has, Cond.instanceMethod yX2_has, Cond.selects RX2 yX2_has yX2_has, Cond.initialized RX2, Cond.code yX2_has cX2_has 2 (some .boolean), Cond.fieldLink RX2 9 "AgedLog$Index" "segments" "[I", Cond.static yX7_isKey]
def wsX0_choose_r2 : List Cond := [Cond.initialized RX7, Cond.code yX7_isKey cX7_isKey 1 (some .boolean), Cond.static yX7_isOfLog, Cond.code yX7_isOfLog cX7_isOfLog 1 (some .boolean), Cond.methodLink RX0 78 yX2_segmentOf, Cond.instanceMethod yX2_segmentOf, Cond.selects RX2 yX2_segmentOf yX2_segmentOf, Cond.code yX2_segmentOf cX2_segmentOf 2 (some .int), Cond.methodLink RX0 81 yX3_lengthOf, Cond.instanceMethod yX3_lengthOf, Cond.selects RX3 yX3_lengthOf yX3_lengthOf, Cond.initialized RX3, Cond.code yX3_lengthOf cX3_lengthOf 2 (some .int), Cond.fieldLink RX3 10 "AgedLog$Log" "memory" "[B", Cond.fieldLink RX3 55 "AgedLog$Log" "index" "LAgedLog$Index;", Cond.methodLink RX3 75 yX2_addressOf, Cond.instanceMethod yX2_addressOf, Cond.selects RX2 yX2_addressOf yX2_addressOf, Cond.code yX2_addressOf cX2_addressOf 2 (some .int), Cond.fieldLink RX2 15 "AgedLog$Index" "places" "[I", Cond.methodLink RX3 69 yX4_number, Cond.static yX4_number, Cond.initialized RX4, Cond.code yX4_number cX4_number 5 (some .int)]
def wsX0_choose_r3 : List Cond := [Cond.methodLink RX4 7 yX4_isWithin, Cond.static yX4_isWithin, Cond.code yX4_isWithin cX4_isWithin 3 (some .boolean), Cond.methodLink RX0 63 yX0_bestLeft, Cond.instanceMethod yX0_bestLeft, Cond.selects RX0 yX0_bestLeft yX0_bestLeft, Cond.code yX0_bestLeft cX0_bestLeft 4 (some .int), Cond.methodLink RX0 84 yX3_stateOf, Cond.instanceMethod yX3_stateOf, Cond.selects RX3 yX3_stateOf yX3_stateOf, Cond.code yX3_stateOf cX3_stateOf 2 (some .int), Cond.fieldLink RX3 40 "AgedLog$Log" "open" "I", Cond.fieldLink RX3 16 "AgedLog$Log" "states" "[I", Cond.methodLink RX0 87 yX0_isWorthMore, Cond.instanceMethod yX0_isWorthMore, Cond.selects RX0 yX0_isWorthMore yX0_isWorthMore, Cond.code yX0_isWorthMore cX0_isWorthMore 7 (some .boolean), Cond.methodLink RX0 91 yX0_ageOf, Cond.instanceMethod yX0_ageOf, Cond.selects RX0 yX0_ageOf yX0_ageOf, Cond.code yX0_ageOf cX0_ageOf 2 (some .long), Cond.methodLink RX0 98 yX3_latestTimeIn, Cond.instanceMethod yX3_latestTimeIn, Cond.selects RX3 yX3_latestTimeIn yX3_latestTimeIn]
def wsX0_choose_r4 : List Cond := [Cond.code yX3_latestTimeIn cX3_latestTimeIn 2 (some .int), Cond.fieldLink RX3 20 "AgedLog$Log" "hasRecords" "[Z", Cond.fieldLink RX3 24 "AgedLog$Log" "latestTimes" "[I"]
def wsX0_choose : List Cond := .code yX0_choose cX0_choose 4 (some .int) :: ((wsX0_choose_r1 ++ (wsX0_choose_r2 ++ (wsX0_choose_r3 ++ wsX0_choose_r4))) ++ wsX00 ++ wsX20 ++ wsX30)
def wsX3_timeOf : List Cond := .code yX3_timeOf cX3_timeOf 2 (some .int) :: ([.fieldLink RX3 10 "AgedLog$Log" "memory" "[B", .fieldLink RX3 55 "AgedLog$Log" "index" "LAgedLog$Index;", .methodLink RX3 75 yX2_addressOf, .instanceMethod yX2_addressOf, .selects RX2 yX2_addressOf yX2_addressOf, .initialized RX2, .code yX2_addressOf cX2_addressOf 2 (some .int), .fieldLink RX2 9 "AgedLog$Index" "segments" "[I", .fieldLink RX2 15 "AgedLog$Index" "places" "[I", .static yX7_isKey, .initialized RX7, .code yX7_isKey cX7_isKey 1 (some .boolean), .methodLink RX3 69 yX4_number, .static yX4_number, .initialized RX4, .code yX4_number cX4_number 5 (some .int), .methodLink RX4 7 yX4_isWithin, .static yX4_isWithin, .code yX4_isWithin cX4_isWithin 3 (some .boolean)] ++ wsX30 ++ wsX20)
def wsX3_sequenceOf : List Cond := .code yX3_sequenceOf cX3_sequenceOf 2 (some .int) :: ([.fieldLink RX3 10 "AgedLog$Log" "memory" "[B", .fieldLink RX3 55 "AgedLog$Log" "index" "LAgedLog$Index;", .methodLink RX3 75 yX2_addressOf, .instanceMethod yX2_addressOf, .selects RX2 yX2_addressOf yX2_addressOf, .initialized RX2, .code yX2_addressOf cX2_addressOf 2 (some .int), .fieldLink RX2 9 "AgedLog$Index" "segments" "[I", .fieldLink RX2 15 "AgedLog$Index" "places" "[I", .static yX7_isKey, .initialized RX7, .code yX7_isKey cX7_isKey 1 (some .boolean), .methodLink RX3 69 yX4_number, .static yX4_number, .initialized RX4, .code yX4_number cX4_number 5 (some .int), .methodLink RX4 7 yX4_isWithin, .static yX4_isWithin, .code yX4_isWithin cX4_isWithin 3 (some .boolean)] ++ wsX30 ++ wsX20)
def wsX0_isOlder_r1 : List Cond := [Cond.fieldLink RX0 26 "AgedLog$Cleaner" "log" "LAgedLog$Log;", Cond.methodLink RX0 107 yX3_timeOf, Cond.instanceMethod yX3_timeOf, Cond.selects RX3 yX3_timeOf yX3_timeOf, Cond.initialized RX3, Cond.code yX3_timeOf cX3_timeOf 2 (some .int), Cond.fieldLink RX3 10 "AgedLog$Log" "memory" "[B", Cond.fieldLink RX3 55 "AgedLog$Log" "index" "LAgedLog$Index;", Cond.methodLink RX3 75 yX2_addressOf, Cond.instanceMethod yX2_addressOf, Cond.selects RX2 yX2_addressOf yX2_addressOf, Cond.initialized RX2, Cond.code yX2_addressOf cX2_addressOf 2 (some .int), Cond.fieldLink RX2 9 "AgedLog$Index" "segments" "[I", Cond.fieldLink RX2 15 "AgedLog$Index" "places" "[I", Cond.static yX7_isKey, Cond.initialized RX7, Cond.code yX7_isKey cX7_isKey 1 (some .boolean), Cond.methodLink RX3 69 yX4_number, Cond.static yX4_number, Cond.initialized RX4, Cond.code yX4_number cX4_number 5 (some .int), Cond.methodLink RX4 7 yX4_isWithin, Cond.static yX4_isWithin]
def wsX0_isOlder_r2 : List Cond := [Cond.code yX4_isWithin cX4_isWithin 3 (some .boolean), Cond.methodLink RX0 110 yX3_sequenceOf, Cond.instanceMethod yX3_sequenceOf, Cond.selects RX3 yX3_sequenceOf yX3_sequenceOf, Cond.code yX3_sequenceOf cX3_sequenceOf 2 (some .int)]
def wsX0_isOlder : List Cond := .code yX0_isOlder cX0_isOlder 5 (some .boolean) :: ((wsX0_isOlder_r1 ++ wsX0_isOlder_r2) ++ wsX00 ++ wsX30 ++ wsX20)
def wsX0_insertAged_r1 : List Cond := [Cond.fieldLink RX0 22 "AgedLog$Cleaner" "agedCount" "I", Cond.fieldLink RX0 19 "AgedLog$Cleaner" "aged" "[I", Cond.methodLink RX0 104 yX0_isOlder, Cond.instanceMethod yX0_isOlder, Cond.selects RX0 yX0_isOlder yX0_isOlder, Cond.initialized RX0, Cond.code yX0_isOlder cX0_isOlder 5 (some .boolean), Cond.fieldLink RX0 26 "AgedLog$Cleaner" "log" "LAgedLog$Log;", Cond.methodLink RX0 107 yX3_timeOf, Cond.instanceMethod yX3_timeOf, Cond.selects RX3 yX3_timeOf yX3_timeOf, Cond.initialized RX3, Cond.code yX3_timeOf cX3_timeOf 2 (some .int), Cond.fieldLink RX3 10 "AgedLog$Log" "memory" "[B", Cond.fieldLink RX3 55 "AgedLog$Log" "index" "LAgedLog$Index;", Cond.methodLink RX3 75 yX2_addressOf, Cond.instanceMethod yX2_addressOf, Cond.selects RX2 yX2_addressOf yX2_addressOf, Cond.initialized RX2, Cond.code yX2_addressOf cX2_addressOf 2 (some .int), Cond.fieldLink RX2 9 "AgedLog$Index" "segments" "[I", Cond.fieldLink RX2 15 "AgedLog$Index" "places" "[I", Cond.static yX7_isKey, Cond.initialized RX7]
def wsX0_insertAged_r2 : List Cond := [Cond.code yX7_isKey cX7_isKey 1 (some .boolean), Cond.methodLink RX3 69 yX4_number, Cond.static yX4_number, Cond.initialized RX4, Cond.code yX4_number cX4_number 5 (some .int), Cond.methodLink RX4 7 yX4_isWithin, Cond.static yX4_isWithin, Cond.code yX4_isWithin cX4_isWithin 3 (some .boolean), Cond.methodLink RX0 110 yX3_sequenceOf, Cond.instanceMethod yX3_sequenceOf, Cond.selects RX3 yX3_sequenceOf yX3_sequenceOf, Cond.code yX3_sequenceOf cX3_sequenceOf 2 (some .int)]
def wsX0_insertAged : List Cond := .code yX0_insertAged cX0_insertAged 3 none :: ((wsX0_insertAged_r1 ++ wsX0_insertAged_r2) ++ wsX00 ++ wsX30 ++ wsX20)
def wsX0_gatherAged_r1 : List Cond := [Cond.fieldLink RX0 22 "AgedLog$Cleaner" "agedCount" "I", Cond.fieldLink RX0 30 "AgedLog$Cleaner" "index" "LAgedLog$Index;", Cond.fieldLink RX0 9 "AgedLog$Cleaner" "chosen" "[Z", Cond.methodLink RX0 72 yX2_has, Cond.instanceMethod yX2_has, Cond.selects RX2 yX2_has yX2_has, Cond.initialized RX2, Cond.code yX2_has cX2_has 2 (some .boolean), Cond.fieldLink RX2 9 "AgedLog$Index" "segments" "[I", Cond.static yX7_isKey, Cond.initialized RX7, Cond.code yX7_isKey cX7_isKey 1 (some .boolean), Cond.static yX7_isOfLog, Cond.code yX7_isOfLog cX7_isOfLog 1 (some .boolean), Cond.methodLink RX0 78 yX2_segmentOf, Cond.instanceMethod yX2_segmentOf, Cond.selects RX2 yX2_segmentOf yX2_segmentOf, Cond.code yX2_segmentOf cX2_segmentOf 2 (some .int), Cond.methodLink RX0 101 yX0_insertAged, Cond.instanceMethod yX0_insertAged, Cond.selects RX0 yX0_insertAged yX0_insertAged, Cond.initialized RX0, Cond.code yX0_insertAged cX0_insertAged 3 none, Cond.fieldLink RX0 19 "AgedLog$Cleaner" "aged" "[I"]
def wsX0_gatherAged_r2 : List Cond := [Cond.methodLink RX0 104 yX0_isOlder, Cond.instanceMethod yX0_isOlder, Cond.selects RX0 yX0_isOlder yX0_isOlder, Cond.code yX0_isOlder cX0_isOlder 5 (some .boolean), Cond.fieldLink RX0 26 "AgedLog$Cleaner" "log" "LAgedLog$Log;", Cond.methodLink RX0 107 yX3_timeOf, Cond.instanceMethod yX3_timeOf, Cond.selects RX3 yX3_timeOf yX3_timeOf, Cond.initialized RX3, Cond.code yX3_timeOf cX3_timeOf 2 (some .int), Cond.fieldLink RX3 10 "AgedLog$Log" "memory" "[B", Cond.fieldLink RX3 55 "AgedLog$Log" "index" "LAgedLog$Index;", Cond.methodLink RX3 75 yX2_addressOf, Cond.instanceMethod yX2_addressOf, Cond.selects RX2 yX2_addressOf yX2_addressOf, Cond.code yX2_addressOf cX2_addressOf 2 (some .int), Cond.fieldLink RX2 15 "AgedLog$Index" "places" "[I", Cond.methodLink RX3 69 yX4_number, Cond.static yX4_number, Cond.initialized RX4, Cond.code yX4_number cX4_number 5 (some .int), Cond.methodLink RX4 7 yX4_isWithin, Cond.static yX4_isWithin, Cond.code yX4_isWithin cX4_isWithin 3 (some .boolean)]
def wsX0_gatherAged_r3 : List Cond := [Cond.methodLink RX0 110 yX3_sequenceOf, Cond.instanceMethod yX3_sequenceOf, Cond.selects RX3 yX3_sequenceOf yX3_sequenceOf, Cond.code yX3_sequenceOf cX3_sequenceOf 2 (some .int)]
def wsX0_gatherAged : List Cond := .code yX0_gatherAged cX0_gatherAged 2 none :: ((wsX0_gatherAged_r1 ++ (wsX0_gatherAged_r2 ++ wsX0_gatherAged_r3)) ++ wsX00 ++ wsX20 ++ wsX30)
def wsX0_countWanted_r1 : List Cond := [Cond.fieldLink RX0 26 "AgedLog$Cleaner" "log" "LAgedLog$Log;", Cond.fieldLink RX0 22 "AgedLog$Cleaner" "agedCount" "I", Cond.fieldLink RX0 19 "AgedLog$Cleaner" "aged" "[I", Cond.methodLink RX0 81 yX3_lengthOf, Cond.instanceMethod yX3_lengthOf, Cond.selects RX3 yX3_lengthOf yX3_lengthOf, Cond.initialized RX3, Cond.code yX3_lengthOf cX3_lengthOf 2 (some .int), Cond.fieldLink RX3 10 "AgedLog$Log" "memory" "[B", Cond.fieldLink RX3 55 "AgedLog$Log" "index" "LAgedLog$Index;", Cond.methodLink RX3 75 yX2_addressOf, Cond.instanceMethod yX2_addressOf, Cond.selects RX2 yX2_addressOf yX2_addressOf, Cond.initialized RX2, Cond.code yX2_addressOf cX2_addressOf 2 (some .int), Cond.fieldLink RX2 9 "AgedLog$Index" "segments" "[I", Cond.fieldLink RX2 15 "AgedLog$Index" "places" "[I", Cond.static yX7_isKey, Cond.initialized RX7, Cond.code yX7_isKey cX7_isKey 1 (some .boolean), Cond.methodLink RX3 69 yX4_number, Cond.static yX4_number, Cond.initialized RX4, Cond.code yX4_number cX4_number 5 (some .int)]
def wsX0_countWanted_r2 : List Cond := [Cond.methodLink RX4 7 yX4_isWithin, Cond.static yX4_isWithin, Cond.code yX4_isWithin cX4_isWithin 3 (some .boolean)]
def wsX0_countWanted : List Cond := .code yX0_countWanted cX0_countWanted 5 (some .int) :: ((wsX0_countWanted_r1 ++ wsX0_countWanted_r2) ++ wsX00 ++ wsX30 ++ wsX20)
def wsX3_countFree : List Cond := .code yX3_countFree cX3_countFree 3 (some .int) :: ([.fieldLink RX3 16 "AgedLog$Log" "states" "[I"] ++ wsX30)
def wsX3_fits : List Cond := .code yX3_fits cX3_fits 2 (some .boolean) :: ([.fieldLink RX3 40 "AgedLog$Log" "open" "I", .fieldLink RX3 43 "AgedLog$Log" "place" "I"] ++ wsX30)
def wsX3_leastFree : List Cond := .code yX3_leastFree cX3_leastFree 2 (some .int) :: ([.fieldLink RX3 16 "AgedLog$Log" "states" "[I"] ++ wsX30)
def wsX3_use : List Cond := .code yX3_use cX3_use 2 none :: ([.fieldLink RX3 16 "AgedLog$Log" "states" "[I", .static yX7_isOfLog, .initialized RX7, .code yX7_isOfLog cX7_isOfLog 1 (some .boolean)] ++ wsX30)
def wsX3_forgetTimes : List Cond := .code yX3_forgetTimes cX3_forgetTimes 2 none :: ([.fieldLink RX3 20 "AgedLog$Log" "hasRecords" "[Z", .static yX7_isOfLog, .initialized RX7, .code yX7_isOfLog cX7_isOfLog 1 (some .boolean)] ++ wsX30)
def wsX4_clear : List Cond := .code yX4_clear cX4_clear 4 none :: ([.methodLink RX4 7 yX4_isWithin, .static yX4_isWithin, .initialized RX4, .code yX4_isWithin cX4_isWithin 3 (some .boolean)])
def wsX4_setNumber : List Cond := .code yX4_setNumber cX4_setNumber 6 none :: ([.methodLink RX4 7 yX4_isWithin, .static yX4_isWithin, .initialized RX4, .code yX4_isWithin cX4_isWithin 3 (some .boolean)])
def wsJ6_rotateLeft_7cf53 : List Cond := .code yJ6_rotateLeft_7cf53 cJ6_rotateLeft_7cf53 2 (some .int) :: ([])
def wsX4_sum : List Cond := .code yX4_sum cX4_sum 5 (some .int) :: ([.constant RX4 19 (-1640531535), .methodLink RX4 7 yX4_isWithin, .static yX4_isWithin, .initialized RX4, .code yX4_isWithin cX4_isWithin 3 (some .boolean), .methodLink RX4 13 yJ6_rotateLeft_7cf53, .static yJ6_rotateLeft_7cf53, .initialized RJ6, .code yJ6_rotateLeft_7cf53 cJ6_rotateLeft_7cf53 2 (some .int)])
def wsX4_setSum : List Cond := .code yX4_setSum cX4_setSum 3 none :: ([.methodLink RX4 20 yX4_sum, .static yX4_sum, .initialized RX4, .code yX4_sum cX4_sum 5 (some .int), .constant RX4 19 (-1640531535), .methodLink RX4 7 yX4_isWithin, .static yX4_isWithin, .code yX4_isWithin cX4_isWithin 3 (some .boolean), .methodLink RX4 13 yJ6_rotateLeft_7cf53, .static yJ6_rotateLeft_7cf53, .initialized RJ6, .code yJ6_rotateLeft_7cf53 cJ6_rotateLeft_7cf53 2 (some .int), .methodLink RX4 24 yX4_setNumber, .static yX4_setNumber, .code yX4_setNumber cX4_setNumber 6 none])
def wsX3_noteFresh : List Cond := .code yX3_noteFresh cX3_noteFresh 3 none :: ([.fieldLink RX3 40 "AgedLog$Log" "open" "I", .fieldLink RX3 36 "AgedLog$Log" "freshCount" "I", .fieldLink RX3 27 "AgedLog$Log" "fresh" "[I", .fieldLink RX3 30 "AgedLog$Log" "freshFrom" "[I", .fieldLink RX3 43 "AgedLog$Log" "place" "I", .fieldLink RX3 33 "AgedLog$Log" "freshTo" "[I", .static yX7_isOfLog, .initialized RX7, .code yX7_isOfLog cX7_isOfLog 1 (some .boolean)] ++ wsX30)
def wsX3_openNext_r1 : List Cond := [Cond.fieldLink RX3 40 "AgedLog$Log" "open" "I", Cond.fieldLink RX3 43 "AgedLog$Log" "place" "I", Cond.fieldLink RX3 46 "AgedLog$Log" "order" "I", Cond.fieldLink RX3 10 "AgedLog$Log" "memory" "[B", Cond.methodLink RX3 124 yX3_leastFree, Cond.instanceMethod yX3_leastFree, Cond.selects RX3 yX3_leastFree yX3_leastFree, Cond.initialized RX3, Cond.code yX3_leastFree cX3_leastFree 2 (some .int), Cond.fieldLink RX3 16 "AgedLog$Log" "states" "[I", Cond.methodLink RX3 127 yX3_use, Cond.instanceMethod yX3_use, Cond.selects RX3 yX3_use yX3_use, Cond.code yX3_use cX3_use 2 none, Cond.static yX7_isOfLog, Cond.initialized RX7, Cond.code yX7_isOfLog cX7_isOfLog 1 (some .boolean), Cond.methodLink RX3 130 yX3_forgetTimes, Cond.instanceMethod yX3_forgetTimes, Cond.selects RX3 yX3_forgetTimes yX3_forgetTimes, Cond.code yX3_forgetTimes cX3_forgetTimes 2 none, Cond.fieldLink RX3 20 "AgedLog$Log" "hasRecords" "[Z", Cond.methodLink RX3 133 yX4_clear, Cond.static yX4_clear]
def wsX3_openNext_r2 : List Cond := [Cond.initialized RX4, Cond.code yX4_clear cX4_clear 4 none, Cond.methodLink RX4 7 yX4_isWithin, Cond.static yX4_isWithin, Cond.code yX4_isWithin cX4_isWithin 3 (some .boolean), Cond.methodLink RX3 100 yX4_setNumber, Cond.static yX4_setNumber, Cond.code yX4_setNumber cX4_setNumber 6 none, Cond.methodLink RX3 108 yX4_setSum, Cond.static yX4_setSum, Cond.code yX4_setSum cX4_setSum 3 none, Cond.methodLink RX4 20 yX4_sum, Cond.static yX4_sum, Cond.code yX4_sum cX4_sum 5 (some .int), Cond.constant RX4 19 (-1640531535), Cond.methodLink RX4 13 yJ6_rotateLeft_7cf53, Cond.static yJ6_rotateLeft_7cf53, Cond.initialized RJ6, Cond.code yJ6_rotateLeft_7cf53 cJ6_rotateLeft_7cf53 2 (some .int), Cond.methodLink RX4 24 yX4_setNumber, Cond.methodLink RX3 120 yX3_noteFresh, Cond.instanceMethod yX3_noteFresh, Cond.selects RX3 yX3_noteFresh yX3_noteFresh, Cond.code yX3_noteFresh cX3_noteFresh 3 none]
def wsX3_openNext_r3 : List Cond := [Cond.fieldLink RX3 36 "AgedLog$Log" "freshCount" "I", Cond.fieldLink RX3 27 "AgedLog$Log" "fresh" "[I", Cond.fieldLink RX3 30 "AgedLog$Log" "freshFrom" "[I", Cond.fieldLink RX3 33 "AgedLog$Log" "freshTo" "[I"]
def wsX3_openNext : List Cond := .code yX3_openNext cX3_openNext 3 none :: ((wsX3_openNext_r1 ++ (wsX3_openNext_r2 ++ wsX3_openNext_r3)) ++ wsX30)
def wsX4_copy : List Cond := .code yX4_copy cX4_copy 5 none :: ([.methodLink RX4 28 arraycopyName, .native arraycopyName, .static arraycopyName, .initialized "java/lang/System", .methodLink RX4 7 yX4_isWithin, .static yX4_isWithin, .initialized RX4, .code yX4_isWithin cX4_isWithin 3 (some .boolean)])
def wsX2_follow : List Cond := .code yX2_follow cX2_follow 5 none :: ([.fieldLink RX2 9 "AgedLog$Index" "segments" "[I", .fieldLink RX2 18 "AgedLog$Index" "count" "I", .fieldLink RX2 15 "AgedLog$Index" "places" "[I", .static yX7_isKey, .initialized RX7, .code yX7_isKey cX7_isKey 1 (some .boolean)] ++ wsX20)
def wsX3_noteTime : List Cond := .code yX3_noteTime cX3_noteTime 3 none :: ([.fieldLink RX3 20 "AgedLog$Log" "hasRecords" "[Z", .fieldLink RX3 24 "AgedLog$Log" "latestTimes" "[I", .static yX7_isOfLog, .initialized RX7, .code yX7_isOfLog cX7_isOfLog 1 (some .boolean)] ++ wsX30)
def wsX3_append_r1 : List Cond := [Cond.fieldLink RX3 49 "AgedLog$Log" "nextSequence" "I", Cond.fieldLink RX3 40 "AgedLog$Log" "open" "I", Cond.fieldLink RX3 43 "AgedLog$Log" "place" "I", Cond.fieldLink RX3 10 "AgedLog$Log" "memory" "[B", Cond.fieldLink RX3 55 "AgedLog$Log" "index" "LAgedLog$Index;", Cond.methodLink RX3 90 yX3_fits, Cond.instanceMethod yX3_fits, Cond.selects RX3 yX3_fits yX3_fits, Cond.initialized RX3, Cond.code yX3_fits cX3_fits 2 (some .boolean), Cond.methodLink RX3 97 yX3_openNext, Cond.instanceMethod yX3_openNext, Cond.selects RX3 yX3_openNext yX3_openNext, Cond.code yX3_openNext cX3_openNext 3 none, Cond.fieldLink RX3 46 "AgedLog$Log" "order" "I", Cond.methodLink RX3 124 yX3_leastFree, Cond.instanceMethod yX3_leastFree, Cond.selects RX3 yX3_leastFree yX3_leastFree, Cond.code yX3_leastFree cX3_leastFree 2 (some .int), Cond.fieldLink RX3 16 "AgedLog$Log" "states" "[I", Cond.methodLink RX3 127 yX3_use, Cond.instanceMethod yX3_use, Cond.selects RX3 yX3_use yX3_use, Cond.code yX3_use cX3_use 2 none]
def wsX3_append_r2 : List Cond := [Cond.static yX7_isOfLog, Cond.initialized RX7, Cond.code yX7_isOfLog cX7_isOfLog 1 (some .boolean), Cond.methodLink RX3 130 yX3_forgetTimes, Cond.instanceMethod yX3_forgetTimes, Cond.selects RX3 yX3_forgetTimes yX3_forgetTimes, Cond.code yX3_forgetTimes cX3_forgetTimes 2 none, Cond.fieldLink RX3 20 "AgedLog$Log" "hasRecords" "[Z", Cond.methodLink RX3 133 yX4_clear, Cond.static yX4_clear, Cond.initialized RX4, Cond.code yX4_clear cX4_clear 4 none, Cond.methodLink RX4 7 yX4_isWithin, Cond.static yX4_isWithin, Cond.code yX4_isWithin cX4_isWithin 3 (some .boolean), Cond.methodLink RX3 100 yX4_setNumber, Cond.static yX4_setNumber, Cond.code yX4_setNumber cX4_setNumber 6 none, Cond.methodLink RX3 108 yX4_setSum, Cond.static yX4_setSum, Cond.code yX4_setSum cX4_setSum 3 none, Cond.methodLink RX4 20 yX4_sum, Cond.static yX4_sum, Cond.code yX4_sum cX4_sum 5 (some .int)]
def wsX3_append_r3 : List Cond := [Cond.constant RX4 19 (-1640531535), Cond.methodLink RX4 13 yJ6_rotateLeft_7cf53, Cond.static yJ6_rotateLeft_7cf53, Cond.initialized RJ6, Cond.code yJ6_rotateLeft_7cf53 cJ6_rotateLeft_7cf53 2 (some .int), Cond.methodLink RX4 24 yX4_setNumber, Cond.methodLink RX3 120 yX3_noteFresh, Cond.instanceMethod yX3_noteFresh, Cond.selects RX3 yX3_noteFresh yX3_noteFresh, Cond.code yX3_noteFresh cX3_noteFresh 3 none, Cond.fieldLink RX3 36 "AgedLog$Log" "freshCount" "I", Cond.fieldLink RX3 27 "AgedLog$Log" "fresh" "[I", Cond.fieldLink RX3 30 "AgedLog$Log" "freshFrom" "[I", Cond.fieldLink RX3 33 "AgedLog$Log" "freshTo" "[I", Cond.methodLink RX3 104 yX4_copy, Cond.static yX4_copy, Cond.code yX4_copy cX4_copy 5 none, Cond.methodLink RX4 28 arraycopyName, Cond.native arraycopyName, Cond.static arraycopyName, Cond.initialized "java/lang/System", Cond.methodLink RX3 112 yX2_follow, Cond.instanceMethod yX2_follow, Cond.selects RX2 yX2_follow yX2_follow]
def wsX3_append_r4 : List Cond := [Cond.initialized RX2, Cond.code yX2_follow cX2_follow 5 none, Cond.fieldLink RX2 9 "AgedLog$Index" "segments" "[I", Cond.fieldLink RX2 18 "AgedLog$Index" "count" "I", Cond.fieldLink RX2 15 "AgedLog$Index" "places" "[I", Cond.static yX7_isKey, Cond.code yX7_isKey cX7_isKey 1 (some .boolean), Cond.methodLink RX3 116 yX3_noteTime, Cond.instanceMethod yX3_noteTime, Cond.selects RX3 yX3_noteTime yX3_noteTime, Cond.code yX3_noteTime cX3_noteTime 3 none, Cond.fieldLink RX3 24 "AgedLog$Log" "latestTimes" "[I"]
def wsX3_append : List Cond := .code yX3_append cX3_append 9 (some .int) :: ((wsX3_append_r1 ++ (wsX3_append_r2 ++ (wsX3_append_r3 ++ wsX3_append_r4))) ++ wsX30 ++ wsX20)
def wsX0_appendAgain_r1 : List Cond := [Cond.fieldLink RX0 30 "AgedLog$Cleaner" "index" "LAgedLog$Index;", Cond.fieldLink RX0 26 "AgedLog$Cleaner" "log" "LAgedLog$Log;", Cond.methodLink RX0 119 yX2_addressOf, Cond.instanceMethod yX2_addressOf, Cond.selects RX2 yX2_addressOf yX2_addressOf, Cond.initialized RX2, Cond.code yX2_addressOf cX2_addressOf 2 (some .int), Cond.fieldLink RX2 9 "AgedLog$Index" "segments" "[I", Cond.fieldLink RX2 15 "AgedLog$Index" "places" "[I", Cond.static yX7_isKey, Cond.initialized RX7, Cond.code yX7_isKey cX7_isKey 1 (some .boolean), Cond.methodLink RX0 107 yX3_timeOf, Cond.instanceMethod yX3_timeOf, Cond.selects RX3 yX3_timeOf yX3_timeOf, Cond.initialized RX3, Cond.code yX3_timeOf cX3_timeOf 2 (some .int), Cond.fieldLink RX3 10 "AgedLog$Log" "memory" "[B", Cond.fieldLink RX3 55 "AgedLog$Log" "index" "LAgedLog$Index;", Cond.methodLink RX3 75 yX2_addressOf, Cond.methodLink RX3 69 yX4_number, Cond.static yX4_number, Cond.initialized RX4, Cond.code yX4_number cX4_number 5 (some .int)]
def wsX0_appendAgain_r2 : List Cond := [Cond.methodLink RX4 7 yX4_isWithin, Cond.static yX4_isWithin, Cond.code yX4_isWithin cX4_isWithin 3 (some .boolean), Cond.methodLink RX0 81 yX3_lengthOf, Cond.instanceMethod yX3_lengthOf, Cond.selects RX3 yX3_lengthOf yX3_lengthOf, Cond.code yX3_lengthOf cX3_lengthOf 2 (some .int), Cond.methodLink RX0 126 yX3_append, Cond.instanceMethod yX3_append, Cond.selects RX3 yX3_append yX3_append, Cond.code yX3_append cX3_append 9 (some .int), Cond.fieldLink RX3 49 "AgedLog$Log" "nextSequence" "I", Cond.fieldLink RX3 40 "AgedLog$Log" "open" "I", Cond.fieldLink RX3 43 "AgedLog$Log" "place" "I", Cond.methodLink RX3 90 yX3_fits, Cond.instanceMethod yX3_fits, Cond.selects RX3 yX3_fits yX3_fits, Cond.code yX3_fits cX3_fits 2 (some .boolean), Cond.methodLink RX3 97 yX3_openNext, Cond.instanceMethod yX3_openNext, Cond.selects RX3 yX3_openNext yX3_openNext, Cond.code yX3_openNext cX3_openNext 3 none, Cond.fieldLink RX3 46 "AgedLog$Log" "order" "I", Cond.methodLink RX3 124 yX3_leastFree]
def wsX0_appendAgain_r3 : List Cond := [Cond.instanceMethod yX3_leastFree, Cond.selects RX3 yX3_leastFree yX3_leastFree, Cond.code yX3_leastFree cX3_leastFree 2 (some .int), Cond.fieldLink RX3 16 "AgedLog$Log" "states" "[I", Cond.methodLink RX3 127 yX3_use, Cond.instanceMethod yX3_use, Cond.selects RX3 yX3_use yX3_use, Cond.code yX3_use cX3_use 2 none, Cond.static yX7_isOfLog, Cond.code yX7_isOfLog cX7_isOfLog 1 (some .boolean), Cond.methodLink RX3 130 yX3_forgetTimes, Cond.instanceMethod yX3_forgetTimes, Cond.selects RX3 yX3_forgetTimes yX3_forgetTimes, Cond.code yX3_forgetTimes cX3_forgetTimes 2 none, Cond.fieldLink RX3 20 "AgedLog$Log" "hasRecords" "[Z", Cond.methodLink RX3 133 yX4_clear, Cond.static yX4_clear, Cond.code yX4_clear cX4_clear 4 none, Cond.methodLink RX3 100 yX4_setNumber, Cond.static yX4_setNumber, Cond.code yX4_setNumber cX4_setNumber 6 none, Cond.methodLink RX3 108 yX4_setSum, Cond.static yX4_setSum, Cond.code yX4_setSum cX4_setSum 3 none]
def wsX0_appendAgain_r4 : List Cond := [Cond.methodLink RX4 20 yX4_sum, Cond.static yX4_sum, Cond.code yX4_sum cX4_sum 5 (some .int), Cond.constant RX4 19 (-1640531535), Cond.methodLink RX4 13 yJ6_rotateLeft_7cf53, Cond.static yJ6_rotateLeft_7cf53, Cond.initialized RJ6, Cond.code yJ6_rotateLeft_7cf53 cJ6_rotateLeft_7cf53 2 (some .int), Cond.methodLink RX4 24 yX4_setNumber, Cond.methodLink RX3 120 yX3_noteFresh, Cond.instanceMethod yX3_noteFresh, Cond.selects RX3 yX3_noteFresh yX3_noteFresh, Cond.code yX3_noteFresh cX3_noteFresh 3 none, Cond.fieldLink RX3 36 "AgedLog$Log" "freshCount" "I", Cond.fieldLink RX3 27 "AgedLog$Log" "fresh" "[I", Cond.fieldLink RX3 30 "AgedLog$Log" "freshFrom" "[I", Cond.fieldLink RX3 33 "AgedLog$Log" "freshTo" "[I", Cond.methodLink RX3 104 yX4_copy, Cond.static yX4_copy, Cond.code yX4_copy cX4_copy 5 none, Cond.methodLink RX4 28 arraycopyName, Cond.native arraycopyName, Cond.static arraycopyName, Cond.initialized "java/lang/System"]
def wsX0_appendAgain_r5 : List Cond := [Cond.methodLink RX3 112 yX2_follow, Cond.instanceMethod yX2_follow, Cond.selects RX2 yX2_follow yX2_follow, Cond.code yX2_follow cX2_follow 5 none, Cond.fieldLink RX2 18 "AgedLog$Index" "count" "I", Cond.methodLink RX3 116 yX3_noteTime, Cond.instanceMethod yX3_noteTime, Cond.selects RX3 yX3_noteTime yX3_noteTime, Cond.code yX3_noteTime cX3_noteTime 3 none, Cond.fieldLink RX3 24 "AgedLog$Log" "latestTimes" "[I"]
def wsX0_appendAgain : List Cond := .code yX0_appendAgain cX0_appendAgain 3 none :: ((wsX0_appendAgain_r1 ++ (wsX0_appendAgain_r2 ++ (wsX0_appendAgain_r3 ++ (wsX0_appendAgain_r4 ++ wsX0_appendAgain_r5)))) ++ wsX00 ++ wsX30 ++ wsX20)
def wsX3_spend : List Cond := .code yX3_spend cX3_spend 2 none :: ([.fieldLink RX3 16 "AgedLog$Log" "states" "[I", .static yX7_isOfLog, .initialized RX7, .code yX7_isOfLog cX7_isOfLog 1 (some .boolean)] ++ wsX30)
def wsX0_spend_r1 : List Cond := [Cond.fieldLink RX0 26 "AgedLog$Cleaner" "log" "LAgedLog$Log;", Cond.fieldLink RX0 22 "AgedLog$Cleaner" "agedCount" "I", Cond.fieldLink RX0 19 "AgedLog$Cleaner" "aged" "[I", Cond.fieldLink RX0 9 "AgedLog$Cleaner" "chosen" "[Z", Cond.methodLink RX0 34 yX0_choose, Cond.instanceMethod yX0_choose, Cond.selects RX0 yX0_choose yX0_choose, Cond.initialized RX0, Cond.code yX0_choose cX0_choose 4 (some .int), Cond.methodLink RX0 57 yX0_forgetChosen, Cond.instanceMethod yX0_forgetChosen, Cond.selects RX0 yX0_forgetChosen yX0_forgetChosen, Cond.code yX0_forgetChosen cX0_forgetChosen 2 none, Cond.methodLink RX0 60 yX0_weighLive, Cond.instanceMethod yX0_weighLive, Cond.selects RX0 yX0_weighLive yX0_weighLive, Cond.code yX0_weighLive cX0_weighLive 2 none, Cond.fieldLink RX0 15 "AgedLog$Cleaner" "live" "[I", Cond.fieldLink RX0 30 "AgedLog$Cleaner" "index" "LAgedLog$Index;", Cond.methodLink RX0 66 yJ7_fill_53178, Cond.static yJ7_fill_53178, Cond.initialized RJ7, Cond.code yJ7_fill_53178 cJ7_fill_53178 4 none, Cond.methodLink RX0 72 yX2_has]
def wsX0_spend_r2 : List Cond := [Cond.instanceMethod yX2_has, Cond.selects RX2 yX2_has yX2_has, Cond.initialized RX2, Cond.code yX2_has cX2_has 2 (some .boolean), Cond.fieldLink RX2 9 "AgedLog$Index" "segments" "[I", Cond.static yX7_isKey, Cond.initialized RX7, Cond.code yX7_isKey cX7_isKey 1 (some .boolean), Cond.static yX7_isOfLog, Cond.code yX7_isOfLog cX7_isOfLog 1 (some .boolean), Cond.methodLink RX0 78 yX2_segmentOf, Cond.instanceMethod yX2_segmentOf, Cond.selects RX2 yX2_segmentOf yX2_segmentOf, Cond.code yX2_segmentOf cX2_segmentOf 2 (some .int), Cond.methodLink RX0 81 yX3_lengthOf, Cond.instanceMethod yX3_lengthOf, Cond.selects RX3 yX3_lengthOf yX3_lengthOf, Cond.initialized RX3, Cond.code yX3_lengthOf cX3_lengthOf 2 (some .int), Cond.fieldLink RX3 10 "AgedLog$Log" "memory" "[B", Cond.fieldLink RX3 55 "AgedLog$Log" "index" "LAgedLog$Index;", Cond.methodLink RX3 75 yX2_addressOf, Cond.instanceMethod yX2_addressOf, Cond.selects RX2 yX2_addressOf yX2_addressOf]
def wsX0_spend_r3 : List Cond := [Cond.code yX2_addressOf cX2_addressOf 2 (some .int), Cond.fieldLink RX2 15 "AgedLog$Index" "places" "[I", Cond.methodLink RX3 69 yX4_number, Cond.static yX4_number, Cond.initialized RX4, Cond.code yX4_number cX4_number 5 (some .int), Cond.methodLink RX4 7 yX4_isWithin, Cond.static yX4_isWithin, Cond.code yX4_isWithin cX4_isWithin 3 (some .boolean), Cond.methodLink RX0 63 yX0_bestLeft, Cond.instanceMethod yX0_bestLeft, Cond.selects RX0 yX0_bestLeft yX0_bestLeft, Cond.code yX0_bestLeft cX0_bestLeft 4 (some .int), Cond.methodLink RX0 84 yX3_stateOf, Cond.instanceMethod yX3_stateOf, Cond.selects RX3 yX3_stateOf yX3_stateOf, Cond.code yX3_stateOf cX3_stateOf 2 (some .int), Cond.fieldLink RX3 40 "AgedLog$Log" "open" "I", Cond.fieldLink RX3 16 "AgedLog$Log" "states" "[I", Cond.methodLink RX0 87 yX0_isWorthMore, Cond.instanceMethod yX0_isWorthMore, Cond.selects RX0 yX0_isWorthMore yX0_isWorthMore, Cond.code yX0_isWorthMore cX0_isWorthMore 7 (some .boolean), Cond.methodLink RX0 91 yX0_ageOf]
def wsX0_spend_r4 : List Cond := [Cond.instanceMethod yX0_ageOf, Cond.selects RX0 yX0_ageOf yX0_ageOf, Cond.code yX0_ageOf cX0_ageOf 2 (some .long), Cond.methodLink RX0 98 yX3_latestTimeIn, Cond.instanceMethod yX3_latestTimeIn, Cond.selects RX3 yX3_latestTimeIn yX3_latestTimeIn, Cond.code yX3_latestTimeIn cX3_latestTimeIn 2 (some .int), Cond.fieldLink RX3 20 "AgedLog$Log" "hasRecords" "[Z", Cond.fieldLink RX3 24 "AgedLog$Log" "latestTimes" "[I", Cond.methodLink RX0 38 yX0_gatherAged, Cond.instanceMethod yX0_gatherAged, Cond.selects RX0 yX0_gatherAged yX0_gatherAged, Cond.code yX0_gatherAged cX0_gatherAged 2 none, Cond.methodLink RX0 101 yX0_insertAged, Cond.instanceMethod yX0_insertAged, Cond.selects RX0 yX0_insertAged yX0_insertAged, Cond.code yX0_insertAged cX0_insertAged 3 none, Cond.methodLink RX0 104 yX0_isOlder, Cond.instanceMethod yX0_isOlder, Cond.selects RX0 yX0_isOlder yX0_isOlder, Cond.code yX0_isOlder cX0_isOlder 5 (some .boolean), Cond.methodLink RX0 107 yX3_timeOf, Cond.instanceMethod yX3_timeOf, Cond.selects RX3 yX3_timeOf yX3_timeOf]
def wsX0_spend_r5 : List Cond := [Cond.code yX3_timeOf cX3_timeOf 2 (some .int), Cond.methodLink RX0 110 yX3_sequenceOf, Cond.instanceMethod yX3_sequenceOf, Cond.selects RX3 yX3_sequenceOf yX3_sequenceOf, Cond.code yX3_sequenceOf cX3_sequenceOf 2 (some .int), Cond.methodLink RX0 41 yX0_countWanted, Cond.instanceMethod yX0_countWanted, Cond.selects RX0 yX0_countWanted yX0_countWanted, Cond.code yX0_countWanted cX0_countWanted 5 (some .int), Cond.methodLink RX0 45 yX3_countFree, Cond.instanceMethod yX3_countFree, Cond.selects RX3 yX3_countFree yX3_countFree, Cond.code yX3_countFree cX3_countFree 3 (some .int), Cond.methodLink RX0 50 yX0_appendAgain, Cond.instanceMethod yX0_appendAgain, Cond.selects RX0 yX0_appendAgain yX0_appendAgain, Cond.code yX0_appendAgain cX0_appendAgain 3 none, Cond.methodLink RX0 119 yX2_addressOf, Cond.methodLink RX0 126 yX3_append, Cond.instanceMethod yX3_append, Cond.selects RX3 yX3_append yX3_append, Cond.code yX3_append cX3_append 9 (some .int), Cond.fieldLink RX3 49 "AgedLog$Log" "nextSequence" "I", Cond.fieldLink RX3 43 "AgedLog$Log" "place" "I"]
def wsX0_spend_r6 : List Cond := [Cond.methodLink RX3 90 yX3_fits, Cond.instanceMethod yX3_fits, Cond.selects RX3 yX3_fits yX3_fits, Cond.code yX3_fits cX3_fits 2 (some .boolean), Cond.methodLink RX3 97 yX3_openNext, Cond.instanceMethod yX3_openNext, Cond.selects RX3 yX3_openNext yX3_openNext, Cond.code yX3_openNext cX3_openNext 3 none, Cond.fieldLink RX3 46 "AgedLog$Log" "order" "I", Cond.methodLink RX3 124 yX3_leastFree, Cond.instanceMethod yX3_leastFree, Cond.selects RX3 yX3_leastFree yX3_leastFree, Cond.code yX3_leastFree cX3_leastFree 2 (some .int), Cond.methodLink RX3 127 yX3_use, Cond.instanceMethod yX3_use, Cond.selects RX3 yX3_use yX3_use, Cond.code yX3_use cX3_use 2 none, Cond.methodLink RX3 130 yX3_forgetTimes, Cond.instanceMethod yX3_forgetTimes, Cond.selects RX3 yX3_forgetTimes yX3_forgetTimes, Cond.code yX3_forgetTimes cX3_forgetTimes 2 none, Cond.methodLink RX3 133 yX4_clear, Cond.static yX4_clear, Cond.code yX4_clear cX4_clear 4 none]
def wsX0_spend_r7 : List Cond := [Cond.methodLink RX3 100 yX4_setNumber, Cond.static yX4_setNumber, Cond.code yX4_setNumber cX4_setNumber 6 none, Cond.methodLink RX3 108 yX4_setSum, Cond.static yX4_setSum, Cond.code yX4_setSum cX4_setSum 3 none, Cond.methodLink RX4 20 yX4_sum, Cond.static yX4_sum, Cond.code yX4_sum cX4_sum 5 (some .int), Cond.constant RX4 19 (-1640531535), Cond.methodLink RX4 13 yJ6_rotateLeft_7cf53, Cond.static yJ6_rotateLeft_7cf53, Cond.initialized RJ6, Cond.code yJ6_rotateLeft_7cf53 cJ6_rotateLeft_7cf53 2 (some .int), Cond.methodLink RX4 24 yX4_setNumber, Cond.methodLink RX3 120 yX3_noteFresh, Cond.instanceMethod yX3_noteFresh, Cond.selects RX3 yX3_noteFresh yX3_noteFresh, Cond.code yX3_noteFresh cX3_noteFresh 3 none, Cond.fieldLink RX3 36 "AgedLog$Log" "freshCount" "I", Cond.fieldLink RX3 27 "AgedLog$Log" "fresh" "[I", Cond.fieldLink RX3 30 "AgedLog$Log" "freshFrom" "[I", Cond.fieldLink RX3 33 "AgedLog$Log" "freshTo" "[I", Cond.methodLink RX3 104 yX4_copy]
def wsX0_spend_r8 : List Cond := [Cond.static yX4_copy, Cond.code yX4_copy cX4_copy 5 none, Cond.methodLink RX4 28 arraycopyName, Cond.native arraycopyName, Cond.static arraycopyName, Cond.initialized "java/lang/System", Cond.methodLink RX3 112 yX2_follow, Cond.instanceMethod yX2_follow, Cond.selects RX2 yX2_follow yX2_follow, Cond.code yX2_follow cX2_follow 5 none, Cond.fieldLink RX2 18 "AgedLog$Index" "count" "I", Cond.methodLink RX3 116 yX3_noteTime, Cond.instanceMethod yX3_noteTime, Cond.selects RX3 yX3_noteTime yX3_noteTime, Cond.code yX3_noteTime cX3_noteTime 3 none, Cond.methodLink RX0 54 yX3_spend, Cond.instanceMethod yX3_spend, Cond.selects RX3 yX3_spend yX3_spend, Cond.code yX3_spend cX3_spend 2 none]
def wsX0_spend : List Cond := .code yX0_spend cX0_spend 4 (some .int) :: ((wsX0_spend_r1 ++ (wsX0_spend_r2 ++ (wsX0_spend_r3 ++ (wsX0_spend_r4 ++ (wsX0_spend_r5 ++ (wsX0_spend_r6 ++ (wsX0_spend_r7 ++ wsX0_spend_r8))))))) ++ wsX00 ++ wsX20 ++ wsX30)
def wsX1_init : List Cond := .code yX1_init cX1_init 1 none :: ([.methodLink RX1 3 objectInit, .instanceMethod objectInit, .code objectInit ⟨#[0xb1]⟩ 1 none, .constant RX1 9 (65536), .arrayClass .byte, .fieldLink RX1 10 "AgedLog$Disk" "row" "[B", .arrayClass .int, .fieldLink RX1 16 "AgedLog$Disk" "tornTail" "[I", .fieldLink RX1 20 "AgedLog$Disk" "written" "I", .fieldLink RX1 24 "AgedLog$Disk" "sectorsToCut" "I", .fieldLink RX1 27 "AgedLog$Disk" "octetsToCut" "I"] ++ wsX10)
def wsX1_cutAt : List Cond := .code yX1_cutAt cX1_cutAt 3 none :: ([.fieldLink RX1 24 "AgedLog$Disk" "sectorsToCut" "I", .fieldLink RX1 27 "AgedLog$Disk" "octetsToCut" "I"] ++ wsX10)
def wsX1_flip : List Cond := .code yX1_flip cX1_flip 3 (some .int) :: ([.fieldLink RX1 10 "AgedLog$Disk" "row" "[B", .methodLink RX1 30 yX4_number, .static yX4_number, .initialized RX4, .code yX4_number cX4_number 5 (some .int), .methodLink RX4 7 yX4_isWithin, .static yX4_isWithin, .code yX4_isWithin cX4_isWithin 3 (some .boolean), .methodLink RX1 36 yX4_setNumber, .static yX4_setNumber, .code yX4_setNumber cX4_setNumber 6 none] ++ wsX10)
def wsX1_isTorn : List Cond := .code yX1_isTorn cX1_isTorn 8 (some .boolean) :: ([.fieldLink RX1 16 "AgedLog$Disk" "tornTail" "[I", .methodLink RX1 51 Lib.Math.min.name, .static Lib.Math.min.name, .initialized "java/lang/Math", .code Lib.Math.min.name Lib.Math.min.code 2 (some .int), .methodLink RX1 57 Lib.Math.max.name, .static Lib.Math.max.name, .code Lib.Math.max.name Lib.Math.max.code 2 (some .int)] ++ wsX10)
def wsX1_hasSum_r1 : List Cond := [Cond.fieldLink RX1 10 "AgedLog$Disk" "row" "[B", Cond.methodLink RX1 40 yX4_isWithin, Cond.static yX4_isWithin, Cond.initialized RX4, Cond.code yX4_isWithin cX4_isWithin 3 (some .boolean), Cond.methodLink RX1 30 yX4_number, Cond.static yX4_number, Cond.code yX4_number cX4_number 5 (some .int), Cond.methodLink RX4 7 yX4_isWithin, Cond.methodLink RX1 44 yX4_sum, Cond.static yX4_sum, Cond.code yX4_sum cX4_sum 5 (some .int), Cond.constant RX4 19 (-1640531535), Cond.methodLink RX4 13 yJ6_rotateLeft_7cf53, Cond.static yJ6_rotateLeft_7cf53, Cond.initialized RJ6, Cond.code yJ6_rotateLeft_7cf53 cJ6_rotateLeft_7cf53 2 (some .int), Cond.methodLink RX1 47 yX1_isTorn, Cond.instanceMethod yX1_isTorn, Cond.selects RX1 yX1_isTorn yX1_isTorn, Cond.initialized RX1, Cond.code yX1_isTorn cX1_isTorn 8 (some .boolean), Cond.fieldLink RX1 16 "AgedLog$Disk" "tornTail" "[I", Cond.methodLink RX1 51 Lib.Math.min.name]
def wsX1_hasSum_r2 : List Cond := [Cond.static Lib.Math.min.name, Cond.initialized "java/lang/Math", Cond.code Lib.Math.min.name Lib.Math.min.code 2 (some .int), Cond.methodLink RX1 57 Lib.Math.max.name, Cond.static Lib.Math.max.name, Cond.code Lib.Math.max.name Lib.Math.max.code 2 (some .int)]
def wsX1_hasSum : List Cond := .code yX1_hasSum cX1_hasSum 3 (some .boolean) :: ((wsX1_hasSum_r1 ++ wsX1_hasSum_r2) ++ wsX10)
def wsX1_write : List Cond := .code yX1_write cX1_write 7 (some .boolean) :: ([.fieldLink RX1 16 "AgedLog$Disk" "tornTail" "[I", .fieldLink RX1 24 "AgedLog$Disk" "sectorsToCut" "I", .fieldLink RX1 10 "AgedLog$Disk" "row" "[B", .fieldLink RX1 27 "AgedLog$Disk" "octetsToCut" "I", .fieldLink RX1 20 "AgedLog$Disk" "written" "I", .methodLink RX1 57 Lib.Math.max.name, .static Lib.Math.max.name, .initialized "java/lang/Math", .code Lib.Math.max.name Lib.Math.max.code 2 (some .int), .methodLink RX1 60 yX4_copy, .static yX4_copy, .initialized RX4, .code yX4_copy cX4_copy 5 none, .methodLink RX4 28 arraycopyName, .native arraycopyName, .static arraycopyName, .initialized "java/lang/System", .methodLink RX4 7 yX4_isWithin, .static yX4_isWithin, .code yX4_isWithin cX4_isWithin 3 (some .boolean)] ++ wsX10)
def wsX2_init : List Cond := .code yX2_init cX2_init 1 none :: ([.methodLink RX2 3 objectInit, .instanceMethod objectInit, .code objectInit ⟨#[0xb1]⟩ 1 none, .arrayClass .int, .fieldLink RX2 9 "AgedLog$Index" "segments" "[I", .fieldLink RX2 15 "AgedLog$Index" "places" "[I", .fieldLink RX2 18 "AgedLog$Index" "count" "I"] ++ wsX20)
def wsX2_placeOf : List Cond := .code yX2_placeOf cX2_placeOf 2 (some .int) :: ([.fieldLink RX2 15 "AgedLog$Index" "places" "[I", .static yX7_isKey, .initialized RX7, .code yX7_isKey cX7_isKey 1 (some .boolean)] ++ wsX20)
def wsX2_clear : List Cond := .code yX2_clear cX2_clear 1 none :: ([.fieldLink RX2 9 "AgedLog$Index" "segments" "[I", .fieldLink RX2 15 "AgedLog$Index" "places" "[I", .fieldLink RX2 18 "AgedLog$Index" "count" "I", .methodLink RX2 29 yJ7_fill_53178, .static yJ7_fill_53178, .initialized RJ7, .code yJ7_fill_53178 cJ7_fill_53178 4 none] ++ wsX20)
def wsX3_init : List Cond := .code yX3_init cX3_init 2 none :: ([.methodLink RX3 3 objectInit, .instanceMethod objectInit, .code objectInit ⟨#[0xb1]⟩ 1 none, .constant RX3 9 (65536), .arrayClass .byte, .fieldLink RX3 10 "AgedLog$Log" "memory" "[B", .arrayClass .int, .fieldLink RX3 16 "AgedLog$Log" "states" "[I", .arrayClass .boolean, .fieldLink RX3 20 "AgedLog$Log" "hasRecords" "[Z", .fieldLink RX3 24 "AgedLog$Log" "latestTimes" "[I", .fieldLink RX3 27 "AgedLog$Log" "fresh" "[I", .fieldLink RX3 30 "AgedLog$Log" "freshFrom" "[I", .fieldLink RX3 33 "AgedLog$Log" "freshTo" "[I", .fieldLink RX3 36 "AgedLog$Log" "freshCount" "I", .fieldLink RX3 40 "AgedLog$Log" "open" "I", .fieldLink RX3 43 "AgedLog$Log" "place" "I", .fieldLink RX3 46 "AgedLog$Log" "order" "I", .fieldLink RX3 49 "AgedLog$Log" "nextSequence" "I", .fieldLink RX3 52 "AgedLog$Log" "clock" "I", .fieldLink RX3 55 "AgedLog$Log" "index" "LAgedLog$Index;"] ++ wsX30)
def wsX3_setAsAtFirst : List Cond := .code yX3_setAsAtFirst cX3_setAsAtFirst 1 none :: ([.fieldLink RX3 16 "AgedLog$Log" "states" "[I", .fieldLink RX3 36 "AgedLog$Log" "freshCount" "I", .fieldLink RX3 40 "AgedLog$Log" "open" "I", .fieldLink RX3 43 "AgedLog$Log" "place" "I", .fieldLink RX3 46 "AgedLog$Log" "order" "I", .fieldLink RX3 49 "AgedLog$Log" "nextSequence" "I", .fieldLink RX3 52 "AgedLog$Log" "clock" "I", .methodLink RX3 59 yJ7_fill_53178, .static yJ7_fill_53178, .initialized RJ7, .code yJ7_fill_53178 cJ7_fill_53178 4 none] ++ wsX30)
def wsX3_isUsed : List Cond := .code yX3_isUsed cX3_isUsed 2 (some .boolean) :: ([.fieldLink RX3 16 "AgedLog$Log" "states" "[I", .static yX7_isOfLog, .initialized RX7, .code yX7_isOfLog cX7_isOfLog 1 (some .boolean)] ++ wsX30)
def wsX3_freeSpent : List Cond := .code yX3_freeSpent cX3_freeSpent 2 none :: ([.fieldLink RX3 16 "AgedLog$Log" "states" "[I"] ++ wsX30)
def wsX3_orderOf : List Cond := .code yX3_orderOf cX3_orderOf 2 (some .int) :: ([.fieldLink RX3 10 "AgedLog$Log" "memory" "[B", .methodLink RX3 69 yX4_number, .static yX4_number, .initialized RX4, .code yX4_number cX4_number 5 (some .int), .methodLink RX4 7 yX4_isWithin, .static yX4_isWithin, .code yX4_isWithin cX4_isWithin 3 (some .boolean)] ++ wsX30)
def wsX3_liveIn_r1 : List Cond := [Cond.fieldLink RX3 55 "AgedLog$Log" "index" "LAgedLog$Index;", Cond.methodLink RX3 81 yX2_has, Cond.instanceMethod yX2_has, Cond.selects RX2 yX2_has yX2_has, Cond.initialized RX2, Cond.code yX2_has cX2_has 2 (some .boolean), Cond.fieldLink RX2 9 "AgedLog$Index" "segments" "[I", Cond.static yX7_isKey, Cond.initialized RX7, Cond.code yX7_isKey cX7_isKey 1 (some .boolean), Cond.static yX7_isOfLog, Cond.code yX7_isOfLog cX7_isOfLog 1 (some .boolean), Cond.methodLink RX3 84 yX2_segmentOf, Cond.instanceMethod yX2_segmentOf, Cond.selects RX2 yX2_segmentOf yX2_segmentOf, Cond.code yX2_segmentOf cX2_segmentOf 2 (some .int), Cond.methodLink RX3 87 yX3_lengthOf, Cond.instanceMethod yX3_lengthOf, Cond.selects RX3 yX3_lengthOf yX3_lengthOf, Cond.initialized RX3, Cond.code yX3_lengthOf cX3_lengthOf 2 (some .int), Cond.fieldLink RX3 10 "AgedLog$Log" "memory" "[B", Cond.methodLink RX3 75 yX2_addressOf, Cond.instanceMethod yX2_addressOf]
def wsX3_liveIn_r2 : List Cond := [Cond.selects RX2 yX2_addressOf yX2_addressOf, Cond.code yX2_addressOf cX2_addressOf 2 (some .int), Cond.fieldLink RX2 15 "AgedLog$Index" "places" "[I", Cond.methodLink RX3 69 yX4_number, Cond.static yX4_number, Cond.initialized RX4, Cond.code yX4_number cX4_number 5 (some .int), Cond.methodLink RX4 7 yX4_isWithin, Cond.static yX4_isWithin, Cond.code yX4_isWithin cX4_isWithin 3 (some .boolean)]
def wsX3_liveIn : List Cond := .code yX3_liveIn cX3_liveIn 4 (some .int) :: ((wsX3_liveIn_r1 ++ wsX3_liveIn_r2) ++ wsX30 ++ wsX20)
def wsX3_hasRoomFor : List Cond := .code yX3_hasRoomFor cX3_hasRoomFor 2 (some .boolean) :: ([.methodLink RX3 90 yX3_fits, .instanceMethod yX3_fits, .selects RX3 yX3_fits yX3_fits, .initialized RX3, .code yX3_fits cX3_fits 2 (some .boolean), .fieldLink RX3 40 "AgedLog$Log" "open" "I", .fieldLink RX3 43 "AgedLog$Log" "place" "I", .methodLink RX3 93 yX3_countFree, .instanceMethod yX3_countFree, .selects RX3 yX3_countFree yX3_countFree, .code yX3_countFree cX3_countFree 3 (some .int), .fieldLink RX3 16 "AgedLog$Log" "states" "[I"] ++ wsX30)
def wsX3_countFreshOctets : List Cond := .code yX3_countFreshOctets cX3_countFreshOctets 3 (some .int) :: ([.fieldLink RX3 36 "AgedLog$Log" "freshCount" "I", .fieldLink RX3 33 "AgedLog$Log" "freshTo" "[I", .fieldLink RX3 27 "AgedLog$Log" "fresh" "[I", .fieldLink RX3 30 "AgedLog$Log" "freshFrom" "[I"] ++ wsX30)
def wsX3_writeSector_r1 : List Cond := [Cond.fieldLink RX3 10 "AgedLog$Log" "memory" "[B", Cond.methodLink RX3 150 yX1_write, Cond.instanceMethod yX1_write, Cond.selects RX1 yX1_write yX1_write, Cond.initialized RX1, Cond.code yX1_write cX1_write 7 (some .boolean), Cond.fieldLink RX1 16 "AgedLog$Disk" "tornTail" "[I", Cond.fieldLink RX1 24 "AgedLog$Disk" "sectorsToCut" "I", Cond.fieldLink RX1 10 "AgedLog$Disk" "row" "[B", Cond.fieldLink RX1 27 "AgedLog$Disk" "octetsToCut" "I", Cond.fieldLink RX1 20 "AgedLog$Disk" "written" "I", Cond.methodLink RX1 57 Lib.Math.max.name, Cond.static Lib.Math.max.name, Cond.initialized "java/lang/Math", Cond.code Lib.Math.max.name Lib.Math.max.code 2 (some .int), Cond.methodLink RX1 60 yX4_copy, Cond.static yX4_copy, Cond.initialized RX4, Cond.code yX4_copy cX4_copy 5 none, Cond.methodLink RX4 28 arraycopyName, Cond.native arraycopyName, Cond.static arraycopyName, Cond.initialized "java/lang/System", Cond.methodLink RX4 7 yX4_isWithin]
def wsX3_writeSector_r2 : List Cond := [Cond.static yX4_isWithin, Cond.code yX4_isWithin cX4_isWithin 3 (some .boolean)]
def wsX3_writeSector : List Cond := .code yX3_writeSector cX3_writeSector 6 (some .boolean) :: ((wsX3_writeSector_r1 ++ wsX3_writeSector_r2) ++ wsX30 ++ wsX10)
def wsX3_writeFreshOf_r1 : List Cond := [Cond.fieldLink RX3 30 "AgedLog$Log" "freshFrom" "[I", Cond.fieldLink RX3 33 "AgedLog$Log" "freshTo" "[I", Cond.methodLink RX3 144 Lib.Math.max.name, Cond.static Lib.Math.max.name, Cond.initialized "java/lang/Math", Cond.code Lib.Math.max.name Lib.Math.max.code 2 (some .int), Cond.methodLink RX3 140 yX3_writeSector, Cond.instanceMethod yX3_writeSector, Cond.selects RX3 yX3_writeSector yX3_writeSector, Cond.initialized RX3, Cond.code yX3_writeSector cX3_writeSector 6 (some .boolean), Cond.fieldLink RX3 10 "AgedLog$Log" "memory" "[B", Cond.methodLink RX3 150 yX1_write, Cond.instanceMethod yX1_write, Cond.selects RX1 yX1_write yX1_write, Cond.initialized RX1, Cond.code yX1_write cX1_write 7 (some .boolean), Cond.fieldLink RX1 16 "AgedLog$Disk" "tornTail" "[I", Cond.fieldLink RX1 24 "AgedLog$Disk" "sectorsToCut" "I", Cond.fieldLink RX1 10 "AgedLog$Disk" "row" "[B", Cond.fieldLink RX1 27 "AgedLog$Disk" "octetsToCut" "I", Cond.fieldLink RX1 20 "AgedLog$Disk" "written" "I", Cond.methodLink RX1 57 Lib.Math.max.name, Cond.methodLink RX1 60 yX4_copy]
def wsX3_writeFreshOf_r2 : List Cond := [Cond.static yX4_copy, Cond.initialized RX4, Cond.code yX4_copy cX4_copy 5 none, Cond.methodLink RX4 28 arraycopyName, Cond.native arraycopyName, Cond.static arraycopyName, Cond.initialized "java/lang/System", Cond.methodLink RX4 7 yX4_isWithin, Cond.static yX4_isWithin, Cond.code yX4_isWithin cX4_isWithin 3 (some .boolean)]
def wsX3_writeFreshOf : List Cond := .code yX3_writeFreshOf cX3_writeFreshOf 8 (some .int) :: ((wsX3_writeFreshOf_r1 ++ wsX3_writeFreshOf_r2) ++ wsX30 ++ wsX10)
def wsX3_writeFresh_r1 : List Cond := [Cond.fieldLink RX3 36 "AgedLog$Log" "freshCount" "I", Cond.fieldLink RX3 27 "AgedLog$Log" "fresh" "[I", Cond.methodLink RX3 136 yX3_writeFreshOf, Cond.instanceMethod yX3_writeFreshOf, Cond.selects RX3 yX3_writeFreshOf yX3_writeFreshOf, Cond.initialized RX3, Cond.code yX3_writeFreshOf cX3_writeFreshOf 8 (some .int), Cond.fieldLink RX3 30 "AgedLog$Log" "freshFrom" "[I", Cond.fieldLink RX3 33 "AgedLog$Log" "freshTo" "[I", Cond.methodLink RX3 144 Lib.Math.max.name, Cond.static Lib.Math.max.name, Cond.initialized "java/lang/Math", Cond.code Lib.Math.max.name Lib.Math.max.code 2 (some .int), Cond.methodLink RX3 140 yX3_writeSector, Cond.instanceMethod yX3_writeSector, Cond.selects RX3 yX3_writeSector yX3_writeSector, Cond.code yX3_writeSector cX3_writeSector 6 (some .boolean), Cond.fieldLink RX3 10 "AgedLog$Log" "memory" "[B", Cond.methodLink RX3 150 yX1_write, Cond.instanceMethod yX1_write, Cond.selects RX1 yX1_write yX1_write, Cond.initialized RX1, Cond.code yX1_write cX1_write 7 (some .boolean), Cond.fieldLink RX1 16 "AgedLog$Disk" "tornTail" "[I"]
def wsX3_writeFresh_r2 : List Cond := [Cond.fieldLink RX1 24 "AgedLog$Disk" "sectorsToCut" "I", Cond.fieldLink RX1 10 "AgedLog$Disk" "row" "[B", Cond.fieldLink RX1 27 "AgedLog$Disk" "octetsToCut" "I", Cond.fieldLink RX1 20 "AgedLog$Disk" "written" "I", Cond.methodLink RX1 57 Lib.Math.max.name, Cond.methodLink RX1 60 yX4_copy, Cond.static yX4_copy, Cond.initialized RX4, Cond.code yX4_copy cX4_copy 5 none, Cond.methodLink RX4 28 arraycopyName, Cond.native arraycopyName, Cond.static arraycopyName, Cond.initialized "java/lang/System", Cond.methodLink RX4 7 yX4_isWithin, Cond.static yX4_isWithin, Cond.code yX4_isWithin cX4_isWithin 3 (some .boolean)]
def wsX3_writeFresh : List Cond := .code yX3_writeFresh cX3_writeFresh 5 (some .int) :: ((wsX3_writeFresh_r1 ++ wsX3_writeFresh_r2) ++ wsX30 ++ wsX10)
def wsX3_loadMemory_r1 : List Cond := [Cond.fieldLink RX3 10 "AgedLog$Log" "memory" "[B", Cond.fieldLink RX3 40 "AgedLog$Log" "open" "I", Cond.fieldLink RX3 43 "AgedLog$Log" "place" "I", Cond.methodLink RX3 156 yX3_isUsed, Cond.instanceMethod yX3_isUsed, Cond.selects RX3 yX3_isUsed yX3_isUsed, Cond.initialized RX3, Cond.code yX3_isUsed cX3_isUsed 2 (some .boolean), Cond.fieldLink RX3 16 "AgedLog$Log" "states" "[I", Cond.static yX7_isOfLog, Cond.initialized RX7, Cond.code yX7_isOfLog cX7_isOfLog 1 (some .boolean), Cond.methodLink RX3 104 yX4_copy, Cond.static yX4_copy, Cond.initialized RX4, Cond.code yX4_copy cX4_copy 5 none, Cond.methodLink RX4 28 arraycopyName, Cond.native arraycopyName, Cond.static arraycopyName, Cond.initialized "java/lang/System", Cond.methodLink RX4 7 yX4_isWithin, Cond.static yX4_isWithin, Cond.code yX4_isWithin cX4_isWithin 3 (some .boolean), Cond.methodLink RX3 133 yX4_clear]
def wsX3_loadMemory_r2 : List Cond := [Cond.static yX4_clear, Cond.code yX4_clear cX4_clear 4 none]
def wsX3_loadMemory : List Cond := .code yX3_loadMemory cX3_loadMemory 4 none :: ((wsX3_loadMemory_r1 ++ wsX3_loadMemory_r2) ++ wsX10 ++ wsX30)
def wsX5_init : List Cond := .code yX5_init cX5_init 5 none :: ([.methodLink RX5 3 objectInit, .instanceMethod objectInit, .code objectInit ⟨#[0xb1]⟩ 1 none, .fieldLink RX5 9 "AgedLog$Recovery" "drive" "LAgedLog$Disk;", .fieldLink RX5 15 "AgedLog$Recovery" "log" "LAgedLog$Log;", .fieldLink RX5 19 "AgedLog$Recovery" "index" "LAgedLog$Index;", .fieldLink RX5 23 "AgedLog$Recovery" "regions" "LAgedLog$Regions;"] ++ wsX50)
def wsX6_setAsAtFirst : List Cond := .code yX6_setAsAtFirst cX6_setAsAtFirst 1 none :: ([.fieldLink RX6 15 "AgedLog$Regions" "number" "I", .fieldLink RX6 19 "AgedLog$Regions" "turn" "I"] ++ wsX60)
def wsX6_numberAt : List Cond := .code yX6_numberAt cX6_numberAt 4 (some .int) :: ([.fieldLink RX6 22 "AgedLog$Regions" "drive" "LAgedLog$Disk;", .methodLink RX6 104 yX4_number, .static yX4_number, .initialized RX4, .code yX4_number cX4_number 5 (some .int), .methodLink RX4 7 yX4_isWithin, .static yX4_isWithin, .code yX4_isWithin cX4_isWithin 3 (some .boolean)] ++ wsX60 ++ wsX10)
def wsX6_areNumbersRight : List Cond := .code yX6_areNumbersRight cX6_areNumbersRight 2 (some .boolean) :: ([.methodLink RX6 99 yX6_numberAt, .instanceMethod yX6_numberAt, .selects RX6 yX6_numberAt yX6_numberAt, .initialized RX6, .code yX6_numberAt cX6_numberAt 4 (some .int), .fieldLink RX6 22 "AgedLog$Regions" "drive" "LAgedLog$Disk;", .methodLink RX6 104 yX4_number, .static yX4_number, .initialized RX4, .code yX4_number cX4_number 5 (some .int), .methodLink RX4 7 yX4_isWithin, .static yX4_isWithin, .code yX4_isWithin cX4_isWithin 3 (some .boolean)] ++ wsX60 ++ wsX10)
def wsX6_isOpenRight : List Cond := .code yX6_isOpenRight cX6_isOpenRight 4 (some .boolean) :: ([.methodLink RX6 99 yX6_numberAt, .instanceMethod yX6_numberAt, .selects RX6 yX6_numberAt yX6_numberAt, .initialized RX6, .code yX6_numberAt cX6_numberAt 4 (some .int), .fieldLink RX6 22 "AgedLog$Regions" "drive" "LAgedLog$Disk;", .methodLink RX6 104 yX4_number, .static yX4_number, .initialized RX4, .code yX4_number cX4_number 5 (some .int), .methodLink RX4 7 yX4_isWithin, .static yX4_isWithin, .code yX4_isWithin cX4_isWithin 3 (some .boolean), .static yX7_isOfLog, .initialized RX7, .code yX7_isOfLog cX7_isOfLog 1 (some .boolean)] ++ wsX60 ++ wsX10)
def wsX6_areKeysRight : List Cond := .code yX6_areKeysRight cX6_areKeysRight 8 (some .boolean) :: ([.methodLink RX6 99 yX6_numberAt, .instanceMethod yX6_numberAt, .selects RX6 yX6_numberAt yX6_numberAt, .initialized RX6, .code yX6_numberAt cX6_numberAt 4 (some .int), .fieldLink RX6 22 "AgedLog$Regions" "drive" "LAgedLog$Disk;", .methodLink RX6 104 yX4_number, .static yX4_number, .initialized RX4, .code yX4_number cX4_number 5 (some .int), .methodLink RX4 7 yX4_isWithin, .static yX4_isWithin, .code yX4_isWithin cX4_isWithin 3 (some .boolean), .static yX7_isKey, .initialized RX7, .code yX7_isKey cX7_isKey 1 (some .boolean), .static yX7_isOfLog, .code yX7_isOfLog cX7_isOfLog 1 (some .boolean)] ++ wsX60 ++ wsX10)
def wsX6_areFlagsRight : List Cond := .code yX6_areFlagsRight cX6_areFlagsRight 4 (some .boolean) :: ([.methodLink RX6 99 yX6_numberAt, .instanceMethod yX6_numberAt, .selects RX6 yX6_numberAt yX6_numberAt, .initialized RX6, .code yX6_numberAt cX6_numberAt 4 (some .int), .fieldLink RX6 22 "AgedLog$Regions" "drive" "LAgedLog$Disk;", .methodLink RX6 104 yX4_number, .static yX4_number, .initialized RX4, .code yX4_number cX4_number 5 (some .int), .methodLink RX4 7 yX4_isWithin, .static yX4_isWithin, .code yX4_isWithin cX4_isWithin 3 (some .boolean)] ++ wsX60 ++ wsX10)
def wsX6_isRight_r1 : List Cond := [Cond.fieldLink RX6 22 "AgedLog$Regions" "drive" "LAgedLog$Disk;", Cond.methodLink RX6 99 yX6_numberAt, Cond.instanceMethod yX6_numberAt, Cond.selects RX6 yX6_numberAt yX6_numberAt, Cond.initialized RX6, Cond.code yX6_numberAt cX6_numberAt 4 (some .int), Cond.methodLink RX6 104 yX4_number, Cond.static yX4_number, Cond.initialized RX4, Cond.code yX4_number cX4_number 5 (some .int), Cond.methodLink RX4 7 yX4_isWithin, Cond.static yX4_isWithin, Cond.code yX4_isWithin cX4_isWithin 3 (some .boolean), Cond.methodLink RX6 107 yX1_hasSum, Cond.instanceMethod yX1_hasSum, Cond.selects RX1 yX1_hasSum yX1_hasSum, Cond.initialized RX1, Cond.code yX1_hasSum cX1_hasSum 3 (some .boolean), Cond.fieldLink RX1 10 "AgedLog$Disk" "row" "[B", Cond.methodLink RX1 40 yX4_isWithin, Cond.methodLink RX1 30 yX4_number, Cond.methodLink RX1 44 yX4_sum, Cond.static yX4_sum, Cond.code yX4_sum cX4_sum 5 (some .int)]
def wsX6_isRight_r2 : List Cond := [Cond.constant RX4 19 (-1640531535), Cond.methodLink RX4 13 yJ6_rotateLeft_7cf53, Cond.static yJ6_rotateLeft_7cf53, Cond.initialized RJ6, Cond.code yJ6_rotateLeft_7cf53 cJ6_rotateLeft_7cf53 2 (some .int), Cond.methodLink RX1 47 yX1_isTorn, Cond.instanceMethod yX1_isTorn, Cond.selects RX1 yX1_isTorn yX1_isTorn, Cond.code yX1_isTorn cX1_isTorn 8 (some .boolean), Cond.fieldLink RX1 16 "AgedLog$Disk" "tornTail" "[I", Cond.methodLink RX1 51 Lib.Math.min.name, Cond.static Lib.Math.min.name, Cond.initialized "java/lang/Math", Cond.code Lib.Math.min.name Lib.Math.min.code 2 (some .int), Cond.methodLink RX1 57 Lib.Math.max.name, Cond.static Lib.Math.max.name, Cond.code Lib.Math.max.name Lib.Math.max.code 2 (some .int), Cond.methodLink RX6 111 yX6_areNumbersRight, Cond.instanceMethod yX6_areNumbersRight, Cond.selects RX6 yX6_areNumbersRight yX6_areNumbersRight, Cond.code yX6_areNumbersRight cX6_areNumbersRight 2 (some .boolean), Cond.methodLink RX6 114 yX6_isOpenRight, Cond.instanceMethod yX6_isOpenRight, Cond.selects RX6 yX6_isOpenRight yX6_isOpenRight]
def wsX6_isRight_r3 : List Cond := [Cond.code yX6_isOpenRight cX6_isOpenRight 4 (some .boolean), Cond.static yX7_isOfLog, Cond.initialized RX7, Cond.code yX7_isOfLog cX7_isOfLog 1 (some .boolean), Cond.methodLink RX6 117 yX6_areKeysRight, Cond.instanceMethod yX6_areKeysRight, Cond.selects RX6 yX6_areKeysRight yX6_areKeysRight, Cond.code yX6_areKeysRight cX6_areKeysRight 8 (some .boolean), Cond.static yX7_isKey, Cond.code yX7_isKey cX7_isKey 1 (some .boolean), Cond.methodLink RX6 120 yX6_areFlagsRight, Cond.instanceMethod yX6_areFlagsRight, Cond.selects RX6 yX6_areFlagsRight yX6_areFlagsRight, Cond.code yX6_areFlagsRight cX6_areFlagsRight 4 (some .boolean)]
def wsX6_isRight : List Cond := .code yX6_isRight cX6_isRight 4 (some .boolean) :: ((wsX6_isRight_r1 ++ (wsX6_isRight_r2 ++ wsX6_isRight_r3)) ++ wsX60 ++ wsX10)
def wsX6_newest_r1 : List Cond := [Cond.methodLink RX6 96 yX6_isRight, Cond.instanceMethod yX6_isRight, Cond.selects RX6 yX6_isRight yX6_isRight, Cond.initialized RX6, Cond.code yX6_isRight cX6_isRight 4 (some .boolean), Cond.fieldLink RX6 22 "AgedLog$Regions" "drive" "LAgedLog$Disk;", Cond.methodLink RX6 99 yX6_numberAt, Cond.instanceMethod yX6_numberAt, Cond.selects RX6 yX6_numberAt yX6_numberAt, Cond.code yX6_numberAt cX6_numberAt 4 (some .int), Cond.methodLink RX6 104 yX4_number, Cond.static yX4_number, Cond.initialized RX4, Cond.code yX4_number cX4_number 5 (some .int), Cond.methodLink RX4 7 yX4_isWithin, Cond.static yX4_isWithin, Cond.code yX4_isWithin cX4_isWithin 3 (some .boolean), Cond.methodLink RX6 107 yX1_hasSum, Cond.instanceMethod yX1_hasSum, Cond.selects RX1 yX1_hasSum yX1_hasSum, Cond.initialized RX1, Cond.code yX1_hasSum cX1_hasSum 3 (some .boolean), Cond.fieldLink RX1 10 "AgedLog$Disk" "row" "[B", Cond.methodLink RX1 40 yX4_isWithin]
def wsX6_newest_r2 : List Cond := [Cond.methodLink RX1 30 yX4_number, Cond.methodLink RX1 44 yX4_sum, Cond.static yX4_sum, Cond.code yX4_sum cX4_sum 5 (some .int), Cond.constant RX4 19 (-1640531535), Cond.methodLink RX4 13 yJ6_rotateLeft_7cf53, Cond.static yJ6_rotateLeft_7cf53, Cond.initialized RJ6, Cond.code yJ6_rotateLeft_7cf53 cJ6_rotateLeft_7cf53 2 (some .int), Cond.methodLink RX1 47 yX1_isTorn, Cond.instanceMethod yX1_isTorn, Cond.selects RX1 yX1_isTorn yX1_isTorn, Cond.code yX1_isTorn cX1_isTorn 8 (some .boolean), Cond.fieldLink RX1 16 "AgedLog$Disk" "tornTail" "[I", Cond.methodLink RX1 51 Lib.Math.min.name, Cond.static Lib.Math.min.name, Cond.initialized "java/lang/Math", Cond.code Lib.Math.min.name Lib.Math.min.code 2 (some .int), Cond.methodLink RX1 57 Lib.Math.max.name, Cond.static Lib.Math.max.name, Cond.code Lib.Math.max.name Lib.Math.max.code 2 (some .int), Cond.methodLink RX6 111 yX6_areNumbersRight, Cond.instanceMethod yX6_areNumbersRight, Cond.selects RX6 yX6_areNumbersRight yX6_areNumbersRight]
def wsX6_newest_r3 : List Cond := [Cond.code yX6_areNumbersRight cX6_areNumbersRight 2 (some .boolean), Cond.methodLink RX6 114 yX6_isOpenRight, Cond.instanceMethod yX6_isOpenRight, Cond.selects RX6 yX6_isOpenRight yX6_isOpenRight, Cond.code yX6_isOpenRight cX6_isOpenRight 4 (some .boolean), Cond.static yX7_isOfLog, Cond.initialized RX7, Cond.code yX7_isOfLog cX7_isOfLog 1 (some .boolean), Cond.methodLink RX6 117 yX6_areKeysRight, Cond.instanceMethod yX6_areKeysRight, Cond.selects RX6 yX6_areKeysRight yX6_areKeysRight, Cond.code yX6_areKeysRight cX6_areKeysRight 8 (some .boolean), Cond.static yX7_isKey, Cond.code yX7_isKey cX7_isKey 1 (some .boolean), Cond.methodLink RX6 120 yX6_areFlagsRight, Cond.instanceMethod yX6_areFlagsRight, Cond.selects RX6 yX6_areFlagsRight yX6_areFlagsRight, Cond.code yX6_areFlagsRight cX6_areFlagsRight 4 (some .boolean)]
def wsX6_newest : List Cond := .code yX6_newest cX6_newest 3 (some .int) :: ((wsX6_newest_r1 ++ (wsX6_newest_r2 ++ wsX6_newest_r3)) ++ wsX60 ++ wsX10)
def wsX6_countOf : List Cond := .code yX6_countOf cX6_countOf 2 (some .int) :: ([.methodLink RX6 136 Lib.Math.min.name, .static Lib.Math.min.name, .initialized "java/lang/Math", .code Lib.Math.min.name Lib.Math.min.code 2 (some .int), .methodLink RX6 99 yX6_numberAt, .instanceMethod yX6_numberAt, .selects RX6 yX6_numberAt yX6_numberAt, .initialized RX6, .code yX6_numberAt cX6_numberAt 4 (some .int), .fieldLink RX6 22 "AgedLog$Regions" "drive" "LAgedLog$Disk;", .methodLink RX6 104 yX4_number, .static yX4_number, .initialized RX4, .code yX4_number cX4_number 5 (some .int), .methodLink RX4 7 yX4_isWithin, .static yX4_isWithin, .code yX4_isWithin cX4_isWithin 3 (some .boolean)] ++ wsX60 ++ wsX10)
def wsX6_load_r1 : List Cond := [Cond.fieldLink RX6 15 "AgedLog$Regions" "number" "I", Cond.fieldLink RX6 19 "AgedLog$Regions" "turn" "I", Cond.fieldLink RX6 26 "AgedLog$Regions" "log" "LAgedLog$Log;", Cond.methodLink RX6 99 yX6_numberAt, Cond.instanceMethod yX6_numberAt, Cond.selects RX6 yX6_numberAt yX6_numberAt, Cond.initialized RX6, Cond.code yX6_numberAt cX6_numberAt 4 (some .int), Cond.fieldLink RX6 22 "AgedLog$Regions" "drive" "LAgedLog$Disk;", Cond.methodLink RX6 104 yX4_number, Cond.static yX4_number, Cond.initialized RX4, Cond.code yX4_number cX4_number 5 (some .int), Cond.methodLink RX4 7 yX4_isWithin, Cond.static yX4_isWithin, Cond.code yX4_isWithin cX4_isWithin 3 (some .boolean), Cond.methodLink RX6 129 yX6_countOf, Cond.instanceMethod yX6_countOf, Cond.selects RX6 yX6_countOf yX6_countOf, Cond.code yX6_countOf cX6_countOf 2 (some .int), Cond.methodLink RX6 136 Lib.Math.min.name, Cond.static Lib.Math.min.name, Cond.initialized "java/lang/Math", Cond.code Lib.Math.min.name Lib.Math.min.code 2 (some .int)]
def wsX6_load_r2 : List Cond := [Cond.methodLink RX6 132 yX3_use, Cond.instanceMethod yX3_use, Cond.selects RX3 yX3_use yX3_use, Cond.initialized RX3, Cond.code yX3_use cX3_use 2 none, Cond.fieldLink RX3 16 "AgedLog$Log" "states" "[I", Cond.static yX7_isOfLog, Cond.initialized RX7, Cond.code yX7_isOfLog cX7_isOfLog 1 (some .boolean)]
def wsX6_load : List Cond := .code yX6_load cX6_load 4 none :: ((wsX6_load_r1 ++ wsX6_load_r2) ++ wsX60 ++ wsX30 ++ wsX10)
def wsX6_keyOf : List Cond := .code yX6_keyOf cX6_keyOf 3 (some .int) :: ([.methodLink RX6 99 yX6_numberAt, .instanceMethod yX6_numberAt, .selects RX6 yX6_numberAt yX6_numberAt, .initialized RX6, .code yX6_numberAt cX6_numberAt 4 (some .int), .fieldLink RX6 22 "AgedLog$Regions" "drive" "LAgedLog$Disk;", .methodLink RX6 104 yX4_number, .static yX4_number, .initialized RX4, .code yX4_number cX4_number 5 (some .int), .methodLink RX4 7 yX4_isWithin, .static yX4_isWithin, .code yX4_isWithin cX4_isWithin 3 (some .boolean)] ++ wsX60 ++ wsX10)
def wsX6_segmentOf : List Cond := .code yX6_segmentOf cX6_segmentOf 3 (some .int) :: ([.methodLink RX6 99 yX6_numberAt, .instanceMethod yX6_numberAt, .selects RX6 yX6_numberAt yX6_numberAt, .initialized RX6, .code yX6_numberAt cX6_numberAt 4 (some .int), .fieldLink RX6 22 "AgedLog$Regions" "drive" "LAgedLog$Disk;", .methodLink RX6 104 yX4_number, .static yX4_number, .initialized RX4, .code yX4_number cX4_number 5 (some .int), .methodLink RX4 7 yX4_isWithin, .static yX4_isWithin, .code yX4_isWithin cX4_isWithin 3 (some .boolean)] ++ wsX60 ++ wsX10)
def wsX6_placeOf : List Cond := .code yX6_placeOf cX6_placeOf 3 (some .int) :: ([.methodLink RX6 99 yX6_numberAt, .instanceMethod yX6_numberAt, .selects RX6 yX6_numberAt yX6_numberAt, .initialized RX6, .code yX6_numberAt cX6_numberAt 4 (some .int), .fieldLink RX6 22 "AgedLog$Regions" "drive" "LAgedLog$Disk;", .methodLink RX6 104 yX4_number, .static yX4_number, .initialized RX4, .code yX4_number cX4_number 5 (some .int), .methodLink RX4 7 yX4_isWithin, .static yX4_isWithin, .code yX4_isWithin cX4_isWithin 3 (some .boolean)] ++ wsX60 ++ wsX10)
def wsX5_kindAt : List Cond := .code yX5_kindAt cX5_kindAt 3 (some .int) :: ([.fieldLink RX5 9 "AgedLog$Recovery" "drive" "LAgedLog$Disk;", .methodLink RX5 122 yX4_number, .static yX4_number, .initialized RX4, .code yX4_number cX4_number 5 (some .int), .methodLink RX4 7 yX4_isWithin, .static yX4_isWithin, .code yX4_isWithin cX4_isWithin 3 (some .boolean)] ++ wsX50 ++ wsX10)
def wsX5_valueLengthAt : List Cond := .code yX5_valueLengthAt cX5_valueLengthAt 3 (some .int) :: ([.fieldLink RX5 9 "AgedLog$Recovery" "drive" "LAgedLog$Disk;", .methodLink RX5 122 yX4_number, .static yX4_number, .initialized RX4, .code yX4_number cX4_number 5 (some .int), .methodLink RX4 7 yX4_isWithin, .static yX4_isWithin, .code yX4_isWithin cX4_isWithin 3 (some .boolean)] ++ wsX50 ++ wsX10)
def wsX5_keyAt : List Cond := .code yX5_keyAt cX5_keyAt 3 (some .int) :: ([.fieldLink RX5 9 "AgedLog$Recovery" "drive" "LAgedLog$Disk;", .methodLink RX5 122 yX4_number, .static yX4_number, .initialized RX4, .code yX4_number cX4_number 5 (some .int), .methodLink RX4 7 yX4_isWithin, .static yX4_isWithin, .code yX4_isWithin cX4_isWithin 3 (some .boolean)] ++ wsX50 ++ wsX10)
def wsX5_rightLength_r1 : List Cond := [Cond.fieldLink RX5 9 "AgedLog$Recovery" "drive" "LAgedLog$Disk;", Cond.static yX7_isOfLog, Cond.initialized RX7, Cond.code yX7_isOfLog cX7_isOfLog 1 (some .boolean), Cond.methodLink RX5 83 yX5_kindAt, Cond.instanceMethod yX5_kindAt, Cond.selects RX5 yX5_kindAt yX5_kindAt, Cond.initialized RX5, Cond.code yX5_kindAt cX5_kindAt 3 (some .int), Cond.methodLink RX5 122 yX4_number, Cond.static yX4_number, Cond.initialized RX4, Cond.code yX4_number cX4_number 5 (some .int), Cond.methodLink RX4 7 yX4_isWithin, Cond.static yX4_isWithin, Cond.code yX4_isWithin cX4_isWithin 3 (some .boolean), Cond.methodLink RX5 145 yX5_valueLengthAt, Cond.instanceMethod yX5_valueLengthAt, Cond.selects RX5 yX5_valueLengthAt yX5_valueLengthAt, Cond.code yX5_valueLengthAt cX5_valueLengthAt 3 (some .int), Cond.methodLink RX5 86 yX5_keyAt, Cond.instanceMethod yX5_keyAt, Cond.selects RX5 yX5_keyAt yX5_keyAt, Cond.code yX5_keyAt cX5_keyAt 3 (some .int)]
def wsX5_rightLength_r2 : List Cond := [Cond.static yX7_isKey, Cond.code yX7_isKey cX7_isKey 1 (some .boolean), Cond.methodLink RX5 131 yX1_hasSum, Cond.instanceMethod yX1_hasSum, Cond.selects RX1 yX1_hasSum yX1_hasSum, Cond.initialized RX1, Cond.code yX1_hasSum cX1_hasSum 3 (some .boolean), Cond.fieldLink RX1 10 "AgedLog$Disk" "row" "[B", Cond.methodLink RX1 40 yX4_isWithin, Cond.methodLink RX1 30 yX4_number, Cond.methodLink RX1 44 yX4_sum, Cond.static yX4_sum, Cond.code yX4_sum cX4_sum 5 (some .int), Cond.constant RX4 19 (-1640531535), Cond.methodLink RX4 13 yJ6_rotateLeft_7cf53, Cond.static yJ6_rotateLeft_7cf53, Cond.initialized RJ6, Cond.code yJ6_rotateLeft_7cf53 cJ6_rotateLeft_7cf53 2 (some .int), Cond.methodLink RX1 47 yX1_isTorn, Cond.instanceMethod yX1_isTorn, Cond.selects RX1 yX1_isTorn yX1_isTorn, Cond.code yX1_isTorn cX1_isTorn 8 (some .boolean), Cond.fieldLink RX1 16 "AgedLog$Disk" "tornTail" "[I", Cond.methodLink RX1 51 Lib.Math.min.name]
def wsX5_rightLength_r3 : List Cond := [Cond.static Lib.Math.min.name, Cond.initialized "java/lang/Math", Cond.code Lib.Math.min.name Lib.Math.min.code 2 (some .int), Cond.methodLink RX1 57 Lib.Math.max.name, Cond.static Lib.Math.max.name, Cond.code Lib.Math.max.name Lib.Math.max.code 2 (some .int)]
def wsX5_rightLength : List Cond := .code yX5_rightLength cX5_rightLength 7 (some .int) :: ((wsX5_rightLength_r1 ++ (wsX5_rightLength_r2 ++ wsX5_rightLength_r3)) ++ wsX50 ++ wsX10)
def wsX5_endOf : List Cond := .code yX5_endOf cX5_endOf 2 (some .int) :: ([.fieldLink RX5 15 "AgedLog$Recovery" "log" "LAgedLog$Log;"] ++ wsX50 ++ wsX30)
def wsX5_isPutOf_r1 : List Cond := [Cond.fieldLink RX5 15 "AgedLog$Recovery" "log" "LAgedLog$Log;", Cond.methodLink RX5 73 yX5_rightLength, Cond.instanceMethod yX5_rightLength, Cond.selects RX5 yX5_rightLength yX5_rightLength, Cond.initialized RX5, Cond.code yX5_rightLength cX5_rightLength 7 (some .int), Cond.fieldLink RX5 9 "AgedLog$Recovery" "drive" "LAgedLog$Disk;", Cond.static yX7_isOfLog, Cond.initialized RX7, Cond.code yX7_isOfLog cX7_isOfLog 1 (some .boolean), Cond.methodLink RX5 83 yX5_kindAt, Cond.instanceMethod yX5_kindAt, Cond.selects RX5 yX5_kindAt yX5_kindAt, Cond.code yX5_kindAt cX5_kindAt 3 (some .int), Cond.methodLink RX5 122 yX4_number, Cond.static yX4_number, Cond.initialized RX4, Cond.code yX4_number cX4_number 5 (some .int), Cond.methodLink RX4 7 yX4_isWithin, Cond.static yX4_isWithin, Cond.code yX4_isWithin cX4_isWithin 3 (some .boolean), Cond.methodLink RX5 145 yX5_valueLengthAt, Cond.instanceMethod yX5_valueLengthAt, Cond.selects RX5 yX5_valueLengthAt yX5_valueLengthAt]
def wsX5_isPutOf_r2 : List Cond := [Cond.code yX5_valueLengthAt cX5_valueLengthAt 3 (some .int), Cond.methodLink RX5 86 yX5_keyAt, Cond.instanceMethod yX5_keyAt, Cond.selects RX5 yX5_keyAt yX5_keyAt, Cond.code yX5_keyAt cX5_keyAt 3 (some .int), Cond.static yX7_isKey, Cond.code yX7_isKey cX7_isKey 1 (some .boolean), Cond.methodLink RX5 131 yX1_hasSum, Cond.instanceMethod yX1_hasSum, Cond.selects RX1 yX1_hasSum yX1_hasSum, Cond.initialized RX1, Cond.code yX1_hasSum cX1_hasSum 3 (some .boolean), Cond.fieldLink RX1 10 "AgedLog$Disk" "row" "[B", Cond.methodLink RX1 40 yX4_isWithin, Cond.methodLink RX1 30 yX4_number, Cond.methodLink RX1 44 yX4_sum, Cond.static yX4_sum, Cond.code yX4_sum cX4_sum 5 (some .int), Cond.constant RX4 19 (-1640531535), Cond.methodLink RX4 13 yJ6_rotateLeft_7cf53, Cond.static yJ6_rotateLeft_7cf53, Cond.initialized RJ6, Cond.code yJ6_rotateLeft_7cf53 cJ6_rotateLeft_7cf53 2 (some .int), Cond.methodLink RX1 47 yX1_isTorn]
def wsX5_isPutOf_r3 : List Cond := [Cond.instanceMethod yX1_isTorn, Cond.selects RX1 yX1_isTorn yX1_isTorn, Cond.code yX1_isTorn cX1_isTorn 8 (some .boolean), Cond.fieldLink RX1 16 "AgedLog$Disk" "tornTail" "[I", Cond.methodLink RX1 51 Lib.Math.min.name, Cond.static Lib.Math.min.name, Cond.initialized "java/lang/Math", Cond.code Lib.Math.min.name Lib.Math.min.code 2 (some .int), Cond.methodLink RX1 57 Lib.Math.max.name, Cond.static Lib.Math.max.name, Cond.code Lib.Math.max.name Lib.Math.max.code 2 (some .int), Cond.methodLink RX5 76 yX3_isUsed, Cond.instanceMethod yX3_isUsed, Cond.selects RX3 yX3_isUsed yX3_isUsed, Cond.initialized RX3, Cond.code yX3_isUsed cX3_isUsed 2 (some .boolean), Cond.fieldLink RX3 16 "AgedLog$Log" "states" "[I", Cond.methodLink RX5 80 yX5_endOf, Cond.instanceMethod yX5_endOf, Cond.selects RX5 yX5_endOf yX5_endOf, Cond.code yX5_endOf cX5_endOf 2 (some .int)]
def wsX5_isPutOf : List Cond := .code yX5_isPutOf cX5_isPutOf 5 (some .boolean) :: ((wsX5_isPutOf_r1 ++ (wsX5_isPutOf_r2 ++ wsX5_isPutOf_r3)) ++ wsX50 ++ wsX10 ++ wsX30)
def wsX5_loadIndex_r1 : List Cond := [Cond.fieldLink RX5 23 "AgedLog$Recovery" "regions" "LAgedLog$Regions;", Cond.fieldLink RX5 19 "AgedLog$Recovery" "index" "LAgedLog$Index;", Cond.methodLink RX5 51 yX6_countOf, Cond.instanceMethod yX6_countOf, Cond.selects RX6 yX6_countOf yX6_countOf, Cond.initialized RX6, Cond.code yX6_countOf cX6_countOf 2 (some .int), Cond.methodLink RX6 136 Lib.Math.min.name, Cond.static Lib.Math.min.name, Cond.initialized "java/lang/Math", Cond.code Lib.Math.min.name Lib.Math.min.code 2 (some .int), Cond.methodLink RX6 99 yX6_numberAt, Cond.instanceMethod yX6_numberAt, Cond.selects RX6 yX6_numberAt yX6_numberAt, Cond.code yX6_numberAt cX6_numberAt 4 (some .int), Cond.fieldLink RX6 22 "AgedLog$Regions" "drive" "LAgedLog$Disk;", Cond.methodLink RX6 104 yX4_number, Cond.static yX4_number, Cond.initialized RX4, Cond.code yX4_number cX4_number 5 (some .int), Cond.methodLink RX4 7 yX4_isWithin, Cond.static yX4_isWithin, Cond.code yX4_isWithin cX4_isWithin 3 (some .boolean), Cond.methodLink RX5 55 yX6_keyOf]
def wsX5_loadIndex_r2 : List Cond := [Cond.instanceMethod yX6_keyOf, Cond.selects RX6 yX6_keyOf yX6_keyOf, Cond.code yX6_keyOf cX6_keyOf 3 (some .int), Cond.methodLink RX5 59 yX6_segmentOf, Cond.instanceMethod yX6_segmentOf, Cond.selects RX6 yX6_segmentOf yX6_segmentOf, Cond.code yX6_segmentOf cX6_segmentOf 3 (some .int), Cond.methodLink RX5 62 yX6_placeOf, Cond.instanceMethod yX6_placeOf, Cond.selects RX6 yX6_placeOf yX6_placeOf, Cond.code yX6_placeOf cX6_placeOf 3 (some .int), Cond.methodLink RX5 65 yX5_isPutOf, Cond.instanceMethod yX5_isPutOf, Cond.selects RX5 yX5_isPutOf yX5_isPutOf, Cond.initialized RX5, Cond.code yX5_isPutOf cX5_isPutOf 5 (some .boolean), Cond.fieldLink RX5 15 "AgedLog$Recovery" "log" "LAgedLog$Log;", Cond.methodLink RX5 73 yX5_rightLength, Cond.instanceMethod yX5_rightLength, Cond.selects RX5 yX5_rightLength yX5_rightLength, Cond.code yX5_rightLength cX5_rightLength 7 (some .int), Cond.fieldLink RX5 9 "AgedLog$Recovery" "drive" "LAgedLog$Disk;", Cond.static yX7_isOfLog, Cond.initialized RX7]
def wsX5_loadIndex_r3 : List Cond := [Cond.code yX7_isOfLog cX7_isOfLog 1 (some .boolean), Cond.methodLink RX5 83 yX5_kindAt, Cond.instanceMethod yX5_kindAt, Cond.selects RX5 yX5_kindAt yX5_kindAt, Cond.code yX5_kindAt cX5_kindAt 3 (some .int), Cond.methodLink RX5 122 yX4_number, Cond.methodLink RX5 145 yX5_valueLengthAt, Cond.instanceMethod yX5_valueLengthAt, Cond.selects RX5 yX5_valueLengthAt yX5_valueLengthAt, Cond.code yX5_valueLengthAt cX5_valueLengthAt 3 (some .int), Cond.methodLink RX5 86 yX5_keyAt, Cond.instanceMethod yX5_keyAt, Cond.selects RX5 yX5_keyAt yX5_keyAt, Cond.code yX5_keyAt cX5_keyAt 3 (some .int), Cond.static yX7_isKey, Cond.code yX7_isKey cX7_isKey 1 (some .boolean), Cond.methodLink RX5 131 yX1_hasSum, Cond.instanceMethod yX1_hasSum, Cond.selects RX1 yX1_hasSum yX1_hasSum, Cond.initialized RX1, Cond.code yX1_hasSum cX1_hasSum 3 (some .boolean), Cond.fieldLink RX1 10 "AgedLog$Disk" "row" "[B", Cond.methodLink RX1 40 yX4_isWithin, Cond.methodLink RX1 30 yX4_number]
def wsX5_loadIndex_r4 : List Cond := [Cond.methodLink RX1 44 yX4_sum, Cond.static yX4_sum, Cond.code yX4_sum cX4_sum 5 (some .int), Cond.constant RX4 19 (-1640531535), Cond.methodLink RX4 13 yJ6_rotateLeft_7cf53, Cond.static yJ6_rotateLeft_7cf53, Cond.initialized RJ6, Cond.code yJ6_rotateLeft_7cf53 cJ6_rotateLeft_7cf53 2 (some .int), Cond.methodLink RX1 47 yX1_isTorn, Cond.instanceMethod yX1_isTorn, Cond.selects RX1 yX1_isTorn yX1_isTorn, Cond.code yX1_isTorn cX1_isTorn 8 (some .boolean), Cond.fieldLink RX1 16 "AgedLog$Disk" "tornTail" "[I", Cond.methodLink RX1 51 Lib.Math.min.name, Cond.methodLink RX1 57 Lib.Math.max.name, Cond.static Lib.Math.max.name, Cond.code Lib.Math.max.name Lib.Math.max.code 2 (some .int), Cond.methodLink RX5 76 yX3_isUsed, Cond.instanceMethod yX3_isUsed, Cond.selects RX3 yX3_isUsed yX3_isUsed, Cond.initialized RX3, Cond.code yX3_isUsed cX3_isUsed 2 (some .boolean), Cond.fieldLink RX3 16 "AgedLog$Log" "states" "[I", Cond.methodLink RX5 80 yX5_endOf]
def wsX5_loadIndex_r5 : List Cond := [Cond.instanceMethod yX5_endOf, Cond.selects RX5 yX5_endOf yX5_endOf, Cond.code yX5_endOf cX5_endOf 2 (some .int), Cond.methodLink RX5 69 yX2_follow, Cond.instanceMethod yX2_follow, Cond.selects RX2 yX2_follow yX2_follow, Cond.initialized RX2, Cond.code yX2_follow cX2_follow 5 none, Cond.fieldLink RX2 9 "AgedLog$Index" "segments" "[I", Cond.fieldLink RX2 18 "AgedLog$Index" "count" "I", Cond.fieldLink RX2 15 "AgedLog$Index" "places" "[I"]
def wsX5_loadIndex : List Cond := .code yX5_loadIndex cX5_loadIndex 7 none :: ((wsX5_loadIndex_r1 ++ (wsX5_loadIndex_r2 ++ (wsX5_loadIndex_r3 ++ (wsX5_loadIndex_r4 ++ wsX5_loadIndex_r5)))) ++ wsX50 ++ wsX60 ++ wsX10 ++ wsX30 ++ wsX20)
def wsX5_takeCheckpoint_r1 : List Cond := [Cond.fieldLink RX5 15 "AgedLog$Recovery" "log" "LAgedLog$Log;", Cond.fieldLink RX5 23 "AgedLog$Recovery" "regions" "LAgedLog$Regions;", Cond.fieldLink RX5 19 "AgedLog$Recovery" "index" "LAgedLog$Index;", Cond.methodLink RX5 27 yX3_setAsAtFirst, Cond.instanceMethod yX3_setAsAtFirst, Cond.selects RX3 yX3_setAsAtFirst yX3_setAsAtFirst, Cond.initialized RX3, Cond.code yX3_setAsAtFirst cX3_setAsAtFirst 1 none, Cond.fieldLink RX3 16 "AgedLog$Log" "states" "[I", Cond.fieldLink RX3 36 "AgedLog$Log" "freshCount" "I", Cond.fieldLink RX3 40 "AgedLog$Log" "open" "I", Cond.fieldLink RX3 43 "AgedLog$Log" "place" "I", Cond.fieldLink RX3 46 "AgedLog$Log" "order" "I", Cond.fieldLink RX3 49 "AgedLog$Log" "nextSequence" "I", Cond.fieldLink RX3 52 "AgedLog$Log" "clock" "I", Cond.methodLink RX3 59 yJ7_fill_53178, Cond.static yJ7_fill_53178, Cond.initialized RJ7, Cond.code yJ7_fill_53178 cJ7_fill_53178 4 none, Cond.methodLink RX5 32 yX6_setAsAtFirst, Cond.instanceMethod yX6_setAsAtFirst, Cond.selects RX6 yX6_setAsAtFirst yX6_setAsAtFirst, Cond.initialized RX6, Cond.code yX6_setAsAtFirst cX6_setAsAtFirst 1 none]
def wsX5_takeCheckpoint_r2 : List Cond := [Cond.fieldLink RX6 15 "AgedLog$Regions" "number" "I", Cond.fieldLink RX6 19 "AgedLog$Regions" "turn" "I", Cond.methodLink RX5 35 yX2_clear, Cond.instanceMethod yX2_clear, Cond.selects RX2 yX2_clear yX2_clear, Cond.initialized RX2, Cond.code yX2_clear cX2_clear 1 none, Cond.fieldLink RX2 9 "AgedLog$Index" "segments" "[I", Cond.fieldLink RX2 15 "AgedLog$Index" "places" "[I", Cond.fieldLink RX2 18 "AgedLog$Index" "count" "I", Cond.methodLink RX2 29 yJ7_fill_53178, Cond.methodLink RX5 40 yX6_newest, Cond.instanceMethod yX6_newest, Cond.selects RX6 yX6_newest yX6_newest, Cond.code yX6_newest cX6_newest 3 (some .int), Cond.methodLink RX6 96 yX6_isRight, Cond.instanceMethod yX6_isRight, Cond.selects RX6 yX6_isRight yX6_isRight, Cond.code yX6_isRight cX6_isRight 4 (some .boolean), Cond.fieldLink RX6 22 "AgedLog$Regions" "drive" "LAgedLog$Disk;", Cond.methodLink RX6 99 yX6_numberAt, Cond.instanceMethod yX6_numberAt, Cond.selects RX6 yX6_numberAt yX6_numberAt, Cond.code yX6_numberAt cX6_numberAt 4 (some .int)]
def wsX5_takeCheckpoint_r3 : List Cond := [Cond.methodLink RX6 104 yX4_number, Cond.static yX4_number, Cond.initialized RX4, Cond.code yX4_number cX4_number 5 (some .int), Cond.methodLink RX4 7 yX4_isWithin, Cond.static yX4_isWithin, Cond.code yX4_isWithin cX4_isWithin 3 (some .boolean), Cond.methodLink RX6 107 yX1_hasSum, Cond.instanceMethod yX1_hasSum, Cond.selects RX1 yX1_hasSum yX1_hasSum, Cond.initialized RX1, Cond.code yX1_hasSum cX1_hasSum 3 (some .boolean), Cond.fieldLink RX1 10 "AgedLog$Disk" "row" "[B", Cond.methodLink RX1 40 yX4_isWithin, Cond.methodLink RX1 30 yX4_number, Cond.methodLink RX1 44 yX4_sum, Cond.static yX4_sum, Cond.code yX4_sum cX4_sum 5 (some .int), Cond.constant RX4 19 (-1640531535), Cond.methodLink RX4 13 yJ6_rotateLeft_7cf53, Cond.static yJ6_rotateLeft_7cf53, Cond.initialized RJ6, Cond.code yJ6_rotateLeft_7cf53 cJ6_rotateLeft_7cf53 2 (some .int), Cond.methodLink RX1 47 yX1_isTorn]
def wsX5_takeCheckpoint_r4 : List Cond := [Cond.instanceMethod yX1_isTorn, Cond.selects RX1 yX1_isTorn yX1_isTorn, Cond.code yX1_isTorn cX1_isTorn 8 (some .boolean), Cond.fieldLink RX1 16 "AgedLog$Disk" "tornTail" "[I", Cond.methodLink RX1 51 Lib.Math.min.name, Cond.static Lib.Math.min.name, Cond.initialized "java/lang/Math", Cond.code Lib.Math.min.name Lib.Math.min.code 2 (some .int), Cond.methodLink RX1 57 Lib.Math.max.name, Cond.static Lib.Math.max.name, Cond.code Lib.Math.max.name Lib.Math.max.code 2 (some .int), Cond.methodLink RX6 111 yX6_areNumbersRight, Cond.instanceMethod yX6_areNumbersRight, Cond.selects RX6 yX6_areNumbersRight yX6_areNumbersRight, Cond.code yX6_areNumbersRight cX6_areNumbersRight 2 (some .boolean), Cond.methodLink RX6 114 yX6_isOpenRight, Cond.instanceMethod yX6_isOpenRight, Cond.selects RX6 yX6_isOpenRight yX6_isOpenRight, Cond.code yX6_isOpenRight cX6_isOpenRight 4 (some .boolean), Cond.static yX7_isOfLog, Cond.initialized RX7, Cond.code yX7_isOfLog cX7_isOfLog 1 (some .boolean), Cond.methodLink RX6 117 yX6_areKeysRight, Cond.instanceMethod yX6_areKeysRight]
def wsX5_takeCheckpoint_r5 : List Cond := [Cond.selects RX6 yX6_areKeysRight yX6_areKeysRight, Cond.code yX6_areKeysRight cX6_areKeysRight 8 (some .boolean), Cond.static yX7_isKey, Cond.code yX7_isKey cX7_isKey 1 (some .boolean), Cond.methodLink RX6 120 yX6_areFlagsRight, Cond.instanceMethod yX6_areFlagsRight, Cond.selects RX6 yX6_areFlagsRight yX6_areFlagsRight, Cond.code yX6_areFlagsRight cX6_areFlagsRight 4 (some .boolean), Cond.methodLink RX5 44 yX6_load, Cond.instanceMethod yX6_load, Cond.selects RX6 yX6_load yX6_load, Cond.code yX6_load cX6_load 4 none, Cond.fieldLink RX6 26 "AgedLog$Regions" "log" "LAgedLog$Log;", Cond.methodLink RX6 129 yX6_countOf, Cond.instanceMethod yX6_countOf, Cond.selects RX6 yX6_countOf yX6_countOf, Cond.code yX6_countOf cX6_countOf 2 (some .int), Cond.methodLink RX6 136 Lib.Math.min.name, Cond.methodLink RX6 132 yX3_use, Cond.instanceMethod yX3_use, Cond.selects RX3 yX3_use yX3_use, Cond.code yX3_use cX3_use 2 none, Cond.methodLink RX5 48 yX5_loadIndex, Cond.instanceMethod yX5_loadIndex]
def wsX5_takeCheckpoint_r6 : List Cond := [Cond.selects RX5 yX5_loadIndex yX5_loadIndex, Cond.initialized RX5, Cond.code yX5_loadIndex cX5_loadIndex 7 none, Cond.methodLink RX5 51 yX6_countOf, Cond.methodLink RX5 55 yX6_keyOf, Cond.instanceMethod yX6_keyOf, Cond.selects RX6 yX6_keyOf yX6_keyOf, Cond.code yX6_keyOf cX6_keyOf 3 (some .int), Cond.methodLink RX5 59 yX6_segmentOf, Cond.instanceMethod yX6_segmentOf, Cond.selects RX6 yX6_segmentOf yX6_segmentOf, Cond.code yX6_segmentOf cX6_segmentOf 3 (some .int), Cond.methodLink RX5 62 yX6_placeOf, Cond.instanceMethod yX6_placeOf, Cond.selects RX6 yX6_placeOf yX6_placeOf, Cond.code yX6_placeOf cX6_placeOf 3 (some .int), Cond.methodLink RX5 65 yX5_isPutOf, Cond.instanceMethod yX5_isPutOf, Cond.selects RX5 yX5_isPutOf yX5_isPutOf, Cond.code yX5_isPutOf cX5_isPutOf 5 (some .boolean), Cond.methodLink RX5 73 yX5_rightLength, Cond.instanceMethod yX5_rightLength, Cond.selects RX5 yX5_rightLength yX5_rightLength, Cond.code yX5_rightLength cX5_rightLength 7 (some .int)]
def wsX5_takeCheckpoint_r7 : List Cond := [Cond.fieldLink RX5 9 "AgedLog$Recovery" "drive" "LAgedLog$Disk;", Cond.methodLink RX5 83 yX5_kindAt, Cond.instanceMethod yX5_kindAt, Cond.selects RX5 yX5_kindAt yX5_kindAt, Cond.code yX5_kindAt cX5_kindAt 3 (some .int), Cond.methodLink RX5 122 yX4_number, Cond.methodLink RX5 145 yX5_valueLengthAt, Cond.instanceMethod yX5_valueLengthAt, Cond.selects RX5 yX5_valueLengthAt yX5_valueLengthAt, Cond.code yX5_valueLengthAt cX5_valueLengthAt 3 (some .int), Cond.methodLink RX5 86 yX5_keyAt, Cond.instanceMethod yX5_keyAt, Cond.selects RX5 yX5_keyAt yX5_keyAt, Cond.code yX5_keyAt cX5_keyAt 3 (some .int), Cond.methodLink RX5 131 yX1_hasSum, Cond.methodLink RX5 76 yX3_isUsed, Cond.instanceMethod yX3_isUsed, Cond.selects RX3 yX3_isUsed yX3_isUsed, Cond.code yX3_isUsed cX3_isUsed 2 (some .boolean), Cond.methodLink RX5 80 yX5_endOf, Cond.instanceMethod yX5_endOf, Cond.selects RX5 yX5_endOf yX5_endOf, Cond.code yX5_endOf cX5_endOf 2 (some .int), Cond.methodLink RX5 69 yX2_follow]
def wsX5_takeCheckpoint_r8 : List Cond := [Cond.instanceMethod yX2_follow, Cond.selects RX2 yX2_follow yX2_follow, Cond.code yX2_follow cX2_follow 5 none]
def wsX5_takeCheckpoint : List Cond := .code yX5_takeCheckpoint cX5_takeCheckpoint 2 none :: ((wsX5_takeCheckpoint_r1 ++ (wsX5_takeCheckpoint_r2 ++ (wsX5_takeCheckpoint_r3 ++ (wsX5_takeCheckpoint_r4 ++ (wsX5_takeCheckpoint_r5 ++ (wsX5_takeCheckpoint_r6 ++ (wsX5_takeCheckpoint_r7 ++ wsX5_takeCheckpoint_r8))))))) ++ wsX50 ++ wsX30 ++ wsX60 ++ wsX20 ++ wsX10)
def wsX5_isNext_r1 : List Cond := [Cond.fieldLink RX5 9 "AgedLog$Recovery" "drive" "LAgedLog$Disk;", Cond.fieldLink RX5 15 "AgedLog$Recovery" "log" "LAgedLog$Log;", Cond.methodLink RX5 73 yX5_rightLength, Cond.instanceMethod yX5_rightLength, Cond.selects RX5 yX5_rightLength yX5_rightLength, Cond.initialized RX5, Cond.code yX5_rightLength cX5_rightLength 7 (some .int), Cond.static yX7_isOfLog, Cond.initialized RX7, Cond.code yX7_isOfLog cX7_isOfLog 1 (some .boolean), Cond.methodLink RX5 83 yX5_kindAt, Cond.instanceMethod yX5_kindAt, Cond.selects RX5 yX5_kindAt yX5_kindAt, Cond.code yX5_kindAt cX5_kindAt 3 (some .int), Cond.methodLink RX5 122 yX4_number, Cond.static yX4_number, Cond.initialized RX4, Cond.code yX4_number cX4_number 5 (some .int), Cond.methodLink RX4 7 yX4_isWithin, Cond.static yX4_isWithin, Cond.code yX4_isWithin cX4_isWithin 3 (some .boolean), Cond.methodLink RX5 145 yX5_valueLengthAt, Cond.instanceMethod yX5_valueLengthAt, Cond.selects RX5 yX5_valueLengthAt yX5_valueLengthAt]
def wsX5_isNext_r2 : List Cond := [Cond.code yX5_valueLengthAt cX5_valueLengthAt 3 (some .int), Cond.methodLink RX5 86 yX5_keyAt, Cond.instanceMethod yX5_keyAt, Cond.selects RX5 yX5_keyAt yX5_keyAt, Cond.code yX5_keyAt cX5_keyAt 3 (some .int), Cond.static yX7_isKey, Cond.code yX7_isKey cX7_isKey 1 (some .boolean), Cond.methodLink RX5 131 yX1_hasSum, Cond.instanceMethod yX1_hasSum, Cond.selects RX1 yX1_hasSum yX1_hasSum, Cond.initialized RX1, Cond.code yX1_hasSum cX1_hasSum 3 (some .boolean), Cond.fieldLink RX1 10 "AgedLog$Disk" "row" "[B", Cond.methodLink RX1 40 yX4_isWithin, Cond.methodLink RX1 30 yX4_number, Cond.methodLink RX1 44 yX4_sum, Cond.static yX4_sum, Cond.code yX4_sum cX4_sum 5 (some .int), Cond.constant RX4 19 (-1640531535), Cond.methodLink RX4 13 yJ6_rotateLeft_7cf53, Cond.static yJ6_rotateLeft_7cf53, Cond.initialized RJ6, Cond.code yJ6_rotateLeft_7cf53 cJ6_rotateLeft_7cf53 2 (some .int), Cond.methodLink RX1 47 yX1_isTorn]
def wsX5_isNext_r3 : List Cond := [Cond.instanceMethod yX1_isTorn, Cond.selects RX1 yX1_isTorn yX1_isTorn, Cond.code yX1_isTorn cX1_isTorn 8 (some .boolean), Cond.fieldLink RX1 16 "AgedLog$Disk" "tornTail" "[I", Cond.methodLink RX1 51 Lib.Math.min.name, Cond.static Lib.Math.min.name, Cond.initialized "java/lang/Math", Cond.code Lib.Math.min.name Lib.Math.min.code 2 (some .int), Cond.methodLink RX1 57 Lib.Math.max.name, Cond.static Lib.Math.max.name, Cond.code Lib.Math.max.name Lib.Math.max.code 2 (some .int)]
def wsX5_isNext : List Cond := .code yX5_isNext cX5_isNext 4 (some .boolean) :: ((wsX5_isNext_r1 ++ (wsX5_isNext_r2 ++ wsX5_isNext_r3)) ++ wsX50 ++ wsX10 ++ wsX30)
def wsX5_hasNextHead_r1 : List Cond := [Cond.fieldLink RX5 9 "AgedLog$Recovery" "drive" "LAgedLog$Disk;", Cond.fieldLink RX5 15 "AgedLog$Recovery" "log" "LAgedLog$Log;", Cond.methodLink RX5 122 yX4_number, Cond.static yX4_number, Cond.initialized RX4, Cond.code yX4_number cX4_number 5 (some .int), Cond.methodLink RX4 7 yX4_isWithin, Cond.static yX4_isWithin, Cond.code yX4_isWithin cX4_isWithin 3 (some .boolean), Cond.methodLink RX5 131 yX1_hasSum, Cond.instanceMethod yX1_hasSum, Cond.selects RX1 yX1_hasSum yX1_hasSum, Cond.initialized RX1, Cond.code yX1_hasSum cX1_hasSum 3 (some .boolean), Cond.fieldLink RX1 10 "AgedLog$Disk" "row" "[B", Cond.methodLink RX1 40 yX4_isWithin, Cond.methodLink RX1 30 yX4_number, Cond.methodLink RX1 44 yX4_sum, Cond.static yX4_sum, Cond.code yX4_sum cX4_sum 5 (some .int), Cond.constant RX4 19 (-1640531535), Cond.methodLink RX4 13 yJ6_rotateLeft_7cf53, Cond.static yJ6_rotateLeft_7cf53, Cond.initialized RJ6]
def wsX5_hasNextHead_r2 : List Cond := [Cond.code yJ6_rotateLeft_7cf53 cJ6_rotateLeft_7cf53 2 (some .int), Cond.methodLink RX1 47 yX1_isTorn, Cond.instanceMethod yX1_isTorn, Cond.selects RX1 yX1_isTorn yX1_isTorn, Cond.code yX1_isTorn cX1_isTorn 8 (some .boolean), Cond.fieldLink RX1 16 "AgedLog$Disk" "tornTail" "[I", Cond.methodLink RX1 51 Lib.Math.min.name, Cond.static Lib.Math.min.name, Cond.initialized "java/lang/Math", Cond.code Lib.Math.min.name Lib.Math.min.code 2 (some .int), Cond.methodLink RX1 57 Lib.Math.max.name, Cond.static Lib.Math.max.name, Cond.code Lib.Math.max.name Lib.Math.max.code 2 (some .int)]
def wsX5_hasNextHead : List Cond := .code yX5_hasNextHead cX5_hasNextHead 3 (some .boolean) :: ((wsX5_hasNextHead_r1 ++ wsX5_hasNextHead_r2) ++ wsX50 ++ wsX10 ++ wsX30)
def wsX5_findNext_r1 : List Cond := [Cond.fieldLink RX5 15 "AgedLog$Recovery" "log" "LAgedLog$Log;", Cond.methodLink RX5 103 yX5_isNext, Cond.instanceMethod yX5_isNext, Cond.selects RX5 yX5_isNext yX5_isNext, Cond.initialized RX5, Cond.code yX5_isNext cX5_isNext 4 (some .boolean), Cond.fieldLink RX5 9 "AgedLog$Recovery" "drive" "LAgedLog$Disk;", Cond.methodLink RX5 73 yX5_rightLength, Cond.instanceMethod yX5_rightLength, Cond.selects RX5 yX5_rightLength yX5_rightLength, Cond.code yX5_rightLength cX5_rightLength 7 (some .int), Cond.static yX7_isOfLog, Cond.initialized RX7, Cond.code yX7_isOfLog cX7_isOfLog 1 (some .boolean), Cond.methodLink RX5 83 yX5_kindAt, Cond.instanceMethod yX5_kindAt, Cond.selects RX5 yX5_kindAt yX5_kindAt, Cond.code yX5_kindAt cX5_kindAt 3 (some .int), Cond.methodLink RX5 122 yX4_number, Cond.static yX4_number, Cond.initialized RX4, Cond.code yX4_number cX4_number 5 (some .int), Cond.methodLink RX4 7 yX4_isWithin, Cond.static yX4_isWithin]
def wsX5_findNext_r2 : List Cond := [Cond.code yX4_isWithin cX4_isWithin 3 (some .boolean), Cond.methodLink RX5 145 yX5_valueLengthAt, Cond.instanceMethod yX5_valueLengthAt, Cond.selects RX5 yX5_valueLengthAt yX5_valueLengthAt, Cond.code yX5_valueLengthAt cX5_valueLengthAt 3 (some .int), Cond.methodLink RX5 86 yX5_keyAt, Cond.instanceMethod yX5_keyAt, Cond.selects RX5 yX5_keyAt yX5_keyAt, Cond.code yX5_keyAt cX5_keyAt 3 (some .int), Cond.static yX7_isKey, Cond.code yX7_isKey cX7_isKey 1 (some .boolean), Cond.methodLink RX5 131 yX1_hasSum, Cond.instanceMethod yX1_hasSum, Cond.selects RX1 yX1_hasSum yX1_hasSum, Cond.initialized RX1, Cond.code yX1_hasSum cX1_hasSum 3 (some .boolean), Cond.fieldLink RX1 10 "AgedLog$Disk" "row" "[B", Cond.methodLink RX1 40 yX4_isWithin, Cond.methodLink RX1 30 yX4_number, Cond.methodLink RX1 44 yX4_sum, Cond.static yX4_sum, Cond.code yX4_sum cX4_sum 5 (some .int), Cond.constant RX4 19 (-1640531535), Cond.methodLink RX4 13 yJ6_rotateLeft_7cf53]
def wsX5_findNext_r3 : List Cond := [Cond.static yJ6_rotateLeft_7cf53, Cond.initialized RJ6, Cond.code yJ6_rotateLeft_7cf53 cJ6_rotateLeft_7cf53 2 (some .int), Cond.methodLink RX1 47 yX1_isTorn, Cond.instanceMethod yX1_isTorn, Cond.selects RX1 yX1_isTorn yX1_isTorn, Cond.code yX1_isTorn cX1_isTorn 8 (some .boolean), Cond.fieldLink RX1 16 "AgedLog$Disk" "tornTail" "[I", Cond.methodLink RX1 51 Lib.Math.min.name, Cond.static Lib.Math.min.name, Cond.initialized "java/lang/Math", Cond.code Lib.Math.min.name Lib.Math.min.code 2 (some .int), Cond.methodLink RX1 57 Lib.Math.max.name, Cond.static Lib.Math.max.name, Cond.code Lib.Math.max.name Lib.Math.max.code 2 (some .int), Cond.methodLink RX5 76 yX3_isUsed, Cond.instanceMethod yX3_isUsed, Cond.selects RX3 yX3_isUsed yX3_isUsed, Cond.initialized RX3, Cond.code yX3_isUsed cX3_isUsed 2 (some .boolean), Cond.fieldLink RX3 16 "AgedLog$Log" "states" "[I", Cond.methodLink RX5 107 yX5_hasNextHead, Cond.instanceMethod yX5_hasNextHead, Cond.selects RX5 yX5_hasNextHead yX5_hasNextHead]
def wsX5_findNext_r4 : List Cond := [Cond.code yX5_hasNextHead cX5_hasNextHead 3 (some .boolean), Cond.methodLink RX5 110 yX3_use, Cond.instanceMethod yX3_use, Cond.selects RX3 yX3_use yX3_use, Cond.code yX3_use cX3_use 2 none]
def wsX5_findNext : List Cond := .code yX5_findNext cX5_findNext 2 (some .boolean) :: ((wsX5_findNext_r1 ++ (wsX5_findNext_r2 ++ (wsX5_findNext_r3 ++ wsX5_findNext_r4))) ++ wsX50 ++ wsX30 ++ wsX10)
def wsX5_timeAt : List Cond := .code yX5_timeAt cX5_timeAt 3 (some .int) :: ([.fieldLink RX5 9 "AgedLog$Recovery" "drive" "LAgedLog$Disk;", .methodLink RX5 122 yX4_number, .static yX4_number, .initialized RX4, .code yX4_number cX4_number 5 (some .int), .methodLink RX4 7 yX4_isWithin, .static yX4_isWithin, .code yX4_isWithin cX4_isWithin 3 (some .boolean)] ++ wsX50 ++ wsX10)
def wsX5_followRecord_r1 : List Cond := [Cond.fieldLink RX5 15 "AgedLog$Recovery" "log" "LAgedLog$Log;", Cond.fieldLink RX5 19 "AgedLog$Recovery" "index" "LAgedLog$Index;", Cond.methodLink RX5 140 Lib.Math.max.name, Cond.static Lib.Math.max.name, Cond.initialized "java/lang/Math", Cond.code Lib.Math.max.name Lib.Math.max.code 2 (some .int), Cond.methodLink RX5 83 yX5_kindAt, Cond.instanceMethod yX5_kindAt, Cond.selects RX5 yX5_kindAt yX5_kindAt, Cond.initialized RX5, Cond.code yX5_kindAt cX5_kindAt 3 (some .int), Cond.fieldLink RX5 9 "AgedLog$Recovery" "drive" "LAgedLog$Disk;", Cond.methodLink RX5 122 yX4_number, Cond.static yX4_number, Cond.initialized RX4, Cond.code yX4_number cX4_number 5 (some .int), Cond.methodLink RX4 7 yX4_isWithin, Cond.static yX4_isWithin, Cond.code yX4_isWithin cX4_isWithin 3 (some .boolean), Cond.methodLink RX5 86 yX5_keyAt, Cond.instanceMethod yX5_keyAt, Cond.selects RX5 yX5_keyAt yX5_keyAt, Cond.code yX5_keyAt cX5_keyAt 3 (some .int), Cond.methodLink RX5 69 yX2_follow]
def wsX5_followRecord_r2 : List Cond := [Cond.instanceMethod yX2_follow, Cond.selects RX2 yX2_follow yX2_follow, Cond.initialized RX2, Cond.code yX2_follow cX2_follow 5 none, Cond.fieldLink RX2 9 "AgedLog$Index" "segments" "[I", Cond.fieldLink RX2 18 "AgedLog$Index" "count" "I", Cond.fieldLink RX2 15 "AgedLog$Index" "places" "[I", Cond.static yX7_isKey, Cond.initialized RX7, Cond.code yX7_isKey cX7_isKey 1 (some .boolean), Cond.methodLink RX5 137 yX5_timeAt, Cond.instanceMethod yX5_timeAt, Cond.selects RX5 yX5_timeAt yX5_timeAt, Cond.code yX5_timeAt cX5_timeAt 3 (some .int), Cond.methodLink RX5 145 yX5_valueLengthAt, Cond.instanceMethod yX5_valueLengthAt, Cond.selects RX5 yX5_valueLengthAt yX5_valueLengthAt, Cond.code yX5_valueLengthAt cX5_valueLengthAt 3 (some .int)]
def wsX5_followRecord : List Cond := .code yX5_followRecord cX5_followRecord 3 none :: ((wsX5_followRecord_r1 ++ wsX5_followRecord_r2) ++ wsX50 ++ wsX30 ++ wsX10 ++ wsX20)
def wsX5_goThrough_r1 : List Cond := [Cond.methodLink RX5 96 yX5_findNext, Cond.instanceMethod yX5_findNext, Cond.selects RX5 yX5_findNext yX5_findNext, Cond.initialized RX5, Cond.code yX5_findNext cX5_findNext 2 (some .boolean), Cond.fieldLink RX5 15 "AgedLog$Recovery" "log" "LAgedLog$Log;", Cond.methodLink RX5 103 yX5_isNext, Cond.instanceMethod yX5_isNext, Cond.selects RX5 yX5_isNext yX5_isNext, Cond.code yX5_isNext cX5_isNext 4 (some .boolean), Cond.fieldLink RX5 9 "AgedLog$Recovery" "drive" "LAgedLog$Disk;", Cond.methodLink RX5 73 yX5_rightLength, Cond.instanceMethod yX5_rightLength, Cond.selects RX5 yX5_rightLength yX5_rightLength, Cond.code yX5_rightLength cX5_rightLength 7 (some .int), Cond.static yX7_isOfLog, Cond.initialized RX7, Cond.code yX7_isOfLog cX7_isOfLog 1 (some .boolean), Cond.methodLink RX5 83 yX5_kindAt, Cond.instanceMethod yX5_kindAt, Cond.selects RX5 yX5_kindAt yX5_kindAt, Cond.code yX5_kindAt cX5_kindAt 3 (some .int), Cond.methodLink RX5 122 yX4_number, Cond.static yX4_number]
def wsX5_goThrough_r2 : List Cond := [Cond.initialized RX4, Cond.code yX4_number cX4_number 5 (some .int), Cond.methodLink RX4 7 yX4_isWithin, Cond.static yX4_isWithin, Cond.code yX4_isWithin cX4_isWithin 3 (some .boolean), Cond.methodLink RX5 145 yX5_valueLengthAt, Cond.instanceMethod yX5_valueLengthAt, Cond.selects RX5 yX5_valueLengthAt yX5_valueLengthAt, Cond.code yX5_valueLengthAt cX5_valueLengthAt 3 (some .int), Cond.methodLink RX5 86 yX5_keyAt, Cond.instanceMethod yX5_keyAt, Cond.selects RX5 yX5_keyAt yX5_keyAt, Cond.code yX5_keyAt cX5_keyAt 3 (some .int), Cond.static yX7_isKey, Cond.code yX7_isKey cX7_isKey 1 (some .boolean), Cond.methodLink RX5 131 yX1_hasSum, Cond.instanceMethod yX1_hasSum, Cond.selects RX1 yX1_hasSum yX1_hasSum, Cond.initialized RX1, Cond.code yX1_hasSum cX1_hasSum 3 (some .boolean), Cond.fieldLink RX1 10 "AgedLog$Disk" "row" "[B", Cond.methodLink RX1 40 yX4_isWithin, Cond.methodLink RX1 30 yX4_number, Cond.methodLink RX1 44 yX4_sum]
def wsX5_goThrough_r3 : List Cond := [Cond.static yX4_sum, Cond.code yX4_sum cX4_sum 5 (some .int), Cond.constant RX4 19 (-1640531535), Cond.methodLink RX4 13 yJ6_rotateLeft_7cf53, Cond.static yJ6_rotateLeft_7cf53, Cond.initialized RJ6, Cond.code yJ6_rotateLeft_7cf53 cJ6_rotateLeft_7cf53 2 (some .int), Cond.methodLink RX1 47 yX1_isTorn, Cond.instanceMethod yX1_isTorn, Cond.selects RX1 yX1_isTorn yX1_isTorn, Cond.code yX1_isTorn cX1_isTorn 8 (some .boolean), Cond.fieldLink RX1 16 "AgedLog$Disk" "tornTail" "[I", Cond.methodLink RX1 51 Lib.Math.min.name, Cond.static Lib.Math.min.name, Cond.initialized "java/lang/Math", Cond.code Lib.Math.min.name Lib.Math.min.code 2 (some .int), Cond.methodLink RX1 57 Lib.Math.max.name, Cond.static Lib.Math.max.name, Cond.code Lib.Math.max.name Lib.Math.max.code 2 (some .int), Cond.methodLink RX5 76 yX3_isUsed, Cond.instanceMethod yX3_isUsed, Cond.selects RX3 yX3_isUsed yX3_isUsed, Cond.initialized RX3, Cond.code yX3_isUsed cX3_isUsed 2 (some .boolean)]
def wsX5_goThrough_r4 : List Cond := [Cond.fieldLink RX3 16 "AgedLog$Log" "states" "[I", Cond.methodLink RX5 107 yX5_hasNextHead, Cond.instanceMethod yX5_hasNextHead, Cond.selects RX5 yX5_hasNextHead yX5_hasNextHead, Cond.code yX5_hasNextHead cX5_hasNextHead 3 (some .boolean), Cond.methodLink RX5 110 yX3_use, Cond.instanceMethod yX3_use, Cond.selects RX3 yX3_use yX3_use, Cond.code yX3_use cX3_use 2 none, Cond.methodLink RX5 100 yX5_followRecord, Cond.instanceMethod yX5_followRecord, Cond.selects RX5 yX5_followRecord yX5_followRecord, Cond.code yX5_followRecord cX5_followRecord 3 none, Cond.fieldLink RX5 19 "AgedLog$Recovery" "index" "LAgedLog$Index;", Cond.methodLink RX5 140 Lib.Math.max.name, Cond.methodLink RX5 69 yX2_follow, Cond.instanceMethod yX2_follow, Cond.selects RX2 yX2_follow yX2_follow, Cond.initialized RX2, Cond.code yX2_follow cX2_follow 5 none, Cond.fieldLink RX2 9 "AgedLog$Index" "segments" "[I", Cond.fieldLink RX2 18 "AgedLog$Index" "count" "I", Cond.fieldLink RX2 15 "AgedLog$Index" "places" "[I", Cond.methodLink RX5 137 yX5_timeAt]
def wsX5_goThrough_r5 : List Cond := [Cond.instanceMethod yX5_timeAt, Cond.selects RX5 yX5_timeAt yX5_timeAt, Cond.code yX5_timeAt cX5_timeAt 3 (some .int)]
def wsX5_goThrough : List Cond := .code yX5_goThrough cX5_goThrough 2 (some .int) :: ((wsX5_goThrough_r1 ++ (wsX5_goThrough_r2 ++ (wsX5_goThrough_r3 ++ (wsX5_goThrough_r4 ++ wsX5_goThrough_r5)))) ++ wsX50 ++ wsX30 ++ wsX10 ++ wsX20)
def wsX5_readTimesOf_r1 : List Cond := [Cond.fieldLink RX5 15 "AgedLog$Recovery" "log" "LAgedLog$Log;", Cond.methodLink RX5 80 yX5_endOf, Cond.instanceMethod yX5_endOf, Cond.selects RX5 yX5_endOf yX5_endOf, Cond.initialized RX5, Cond.code yX5_endOf cX5_endOf 2 (some .int), Cond.methodLink RX5 73 yX5_rightLength, Cond.instanceMethod yX5_rightLength, Cond.selects RX5 yX5_rightLength yX5_rightLength, Cond.code yX5_rightLength cX5_rightLength 7 (some .int), Cond.fieldLink RX5 9 "AgedLog$Recovery" "drive" "LAgedLog$Disk;", Cond.static yX7_isOfLog, Cond.initialized RX7, Cond.code yX7_isOfLog cX7_isOfLog 1 (some .boolean), Cond.methodLink RX5 83 yX5_kindAt, Cond.instanceMethod yX5_kindAt, Cond.selects RX5 yX5_kindAt yX5_kindAt, Cond.code yX5_kindAt cX5_kindAt 3 (some .int), Cond.methodLink RX5 122 yX4_number, Cond.static yX4_number, Cond.initialized RX4, Cond.code yX4_number cX4_number 5 (some .int), Cond.methodLink RX4 7 yX4_isWithin, Cond.static yX4_isWithin]
def wsX5_readTimesOf_r2 : List Cond := [Cond.code yX4_isWithin cX4_isWithin 3 (some .boolean), Cond.methodLink RX5 145 yX5_valueLengthAt, Cond.instanceMethod yX5_valueLengthAt, Cond.selects RX5 yX5_valueLengthAt yX5_valueLengthAt, Cond.code yX5_valueLengthAt cX5_valueLengthAt 3 (some .int), Cond.methodLink RX5 86 yX5_keyAt, Cond.instanceMethod yX5_keyAt, Cond.selects RX5 yX5_keyAt yX5_keyAt, Cond.code yX5_keyAt cX5_keyAt 3 (some .int), Cond.static yX7_isKey, Cond.code yX7_isKey cX7_isKey 1 (some .boolean), Cond.methodLink RX5 131 yX1_hasSum, Cond.instanceMethod yX1_hasSum, Cond.selects RX1 yX1_hasSum yX1_hasSum, Cond.initialized RX1, Cond.code yX1_hasSum cX1_hasSum 3 (some .boolean), Cond.fieldLink RX1 10 "AgedLog$Disk" "row" "[B", Cond.methodLink RX1 40 yX4_isWithin, Cond.methodLink RX1 30 yX4_number, Cond.methodLink RX1 44 yX4_sum, Cond.static yX4_sum, Cond.code yX4_sum cX4_sum 5 (some .int), Cond.constant RX4 19 (-1640531535), Cond.methodLink RX4 13 yJ6_rotateLeft_7cf53]
def wsX5_readTimesOf_r3 : List Cond := [Cond.static yJ6_rotateLeft_7cf53, Cond.initialized RJ6, Cond.code yJ6_rotateLeft_7cf53 cJ6_rotateLeft_7cf53 2 (some .int), Cond.methodLink RX1 47 yX1_isTorn, Cond.instanceMethod yX1_isTorn, Cond.selects RX1 yX1_isTorn yX1_isTorn, Cond.code yX1_isTorn cX1_isTorn 8 (some .boolean), Cond.fieldLink RX1 16 "AgedLog$Disk" "tornTail" "[I", Cond.methodLink RX1 51 Lib.Math.min.name, Cond.static Lib.Math.min.name, Cond.initialized "java/lang/Math", Cond.code Lib.Math.min.name Lib.Math.min.code 2 (some .int), Cond.methodLink RX1 57 Lib.Math.max.name, Cond.static Lib.Math.max.name, Cond.code Lib.Math.max.name Lib.Math.max.code 2 (some .int), Cond.methodLink RX5 137 yX5_timeAt, Cond.instanceMethod yX5_timeAt, Cond.selects RX5 yX5_timeAt yX5_timeAt, Cond.code yX5_timeAt cX5_timeAt 3 (some .int), Cond.methodLink RX5 158 yX3_noteTime, Cond.instanceMethod yX3_noteTime, Cond.selects RX3 yX3_noteTime yX3_noteTime, Cond.initialized RX3, Cond.code yX3_noteTime cX3_noteTime 3 none]
def wsX5_readTimesOf_r4 : List Cond := [Cond.fieldLink RX3 20 "AgedLog$Log" "hasRecords" "[Z", Cond.fieldLink RX3 24 "AgedLog$Log" "latestTimes" "[I"]
def wsX5_readTimesOf : List Cond := .code yX5_readTimesOf cX5_readTimesOf 5 none :: ((wsX5_readTimesOf_r1 ++ (wsX5_readTimesOf_r2 ++ (wsX5_readTimesOf_r3 ++ wsX5_readTimesOf_r4))) ++ wsX50 ++ wsX30 ++ wsX10)
def wsX5_fillMemory_r1 : List Cond := [Cond.fieldLink RX5 15 "AgedLog$Recovery" "log" "LAgedLog$Log;", Cond.fieldLink RX5 9 "AgedLog$Recovery" "drive" "LAgedLog$Disk;", Cond.methodLink RX5 148 yX3_loadMemory, Cond.instanceMethod yX3_loadMemory, Cond.selects RX3 yX3_loadMemory yX3_loadMemory, Cond.initialized RX3, Cond.code yX3_loadMemory cX3_loadMemory 4 none, Cond.fieldLink RX3 10 "AgedLog$Log" "memory" "[B", Cond.fieldLink RX3 40 "AgedLog$Log" "open" "I", Cond.fieldLink RX3 43 "AgedLog$Log" "place" "I", Cond.methodLink RX3 156 yX3_isUsed, Cond.instanceMethod yX3_isUsed, Cond.selects RX3 yX3_isUsed yX3_isUsed, Cond.code yX3_isUsed cX3_isUsed 2 (some .boolean), Cond.fieldLink RX3 16 "AgedLog$Log" "states" "[I", Cond.static yX7_isOfLog, Cond.initialized RX7, Cond.code yX7_isOfLog cX7_isOfLog 1 (some .boolean), Cond.methodLink RX3 104 yX4_copy, Cond.static yX4_copy, Cond.initialized RX4, Cond.code yX4_copy cX4_copy 5 none, Cond.methodLink RX4 28 arraycopyName, Cond.native arraycopyName]
def wsX5_fillMemory_r2 : List Cond := [Cond.static arraycopyName, Cond.initialized "java/lang/System", Cond.methodLink RX4 7 yX4_isWithin, Cond.static yX4_isWithin, Cond.code yX4_isWithin cX4_isWithin 3 (some .boolean), Cond.methodLink RX3 133 yX4_clear, Cond.static yX4_clear, Cond.code yX4_clear cX4_clear 4 none, Cond.methodLink RX5 152 yX3_forgetTimes, Cond.instanceMethod yX3_forgetTimes, Cond.selects RX3 yX3_forgetTimes yX3_forgetTimes, Cond.code yX3_forgetTimes cX3_forgetTimes 2 none, Cond.fieldLink RX3 20 "AgedLog$Log" "hasRecords" "[Z", Cond.methodLink RX5 76 yX3_isUsed, Cond.methodLink RX5 155 yX5_readTimesOf, Cond.instanceMethod yX5_readTimesOf, Cond.selects RX5 yX5_readTimesOf yX5_readTimesOf, Cond.initialized RX5, Cond.code yX5_readTimesOf cX5_readTimesOf 5 none, Cond.methodLink RX5 80 yX5_endOf, Cond.instanceMethod yX5_endOf, Cond.selects RX5 yX5_endOf yX5_endOf, Cond.code yX5_endOf cX5_endOf 2 (some .int), Cond.methodLink RX5 73 yX5_rightLength]
def wsX5_fillMemory_r3 : List Cond := [Cond.instanceMethod yX5_rightLength, Cond.selects RX5 yX5_rightLength yX5_rightLength, Cond.code yX5_rightLength cX5_rightLength 7 (some .int), Cond.methodLink RX5 83 yX5_kindAt, Cond.instanceMethod yX5_kindAt, Cond.selects RX5 yX5_kindAt yX5_kindAt, Cond.code yX5_kindAt cX5_kindAt 3 (some .int), Cond.methodLink RX5 122 yX4_number, Cond.static yX4_number, Cond.code yX4_number cX4_number 5 (some .int), Cond.methodLink RX5 145 yX5_valueLengthAt, Cond.instanceMethod yX5_valueLengthAt, Cond.selects RX5 yX5_valueLengthAt yX5_valueLengthAt, Cond.code yX5_valueLengthAt cX5_valueLengthAt 3 (some .int), Cond.methodLink RX5 86 yX5_keyAt, Cond.instanceMethod yX5_keyAt, Cond.selects RX5 yX5_keyAt yX5_keyAt, Cond.code yX5_keyAt cX5_keyAt 3 (some .int), Cond.static yX7_isKey, Cond.code yX7_isKey cX7_isKey 1 (some .boolean), Cond.methodLink RX5 131 yX1_hasSum, Cond.instanceMethod yX1_hasSum, Cond.selects RX1 yX1_hasSum yX1_hasSum, Cond.initialized RX1]
def wsX5_fillMemory_r4 : List Cond := [Cond.code yX1_hasSum cX1_hasSum 3 (some .boolean), Cond.fieldLink RX1 10 "AgedLog$Disk" "row" "[B", Cond.methodLink RX1 40 yX4_isWithin, Cond.methodLink RX1 30 yX4_number, Cond.methodLink RX1 44 yX4_sum, Cond.static yX4_sum, Cond.code yX4_sum cX4_sum 5 (some .int), Cond.constant RX4 19 (-1640531535), Cond.methodLink RX4 13 yJ6_rotateLeft_7cf53, Cond.static yJ6_rotateLeft_7cf53, Cond.initialized RJ6, Cond.code yJ6_rotateLeft_7cf53 cJ6_rotateLeft_7cf53 2 (some .int), Cond.methodLink RX1 47 yX1_isTorn, Cond.instanceMethod yX1_isTorn, Cond.selects RX1 yX1_isTorn yX1_isTorn, Cond.code yX1_isTorn cX1_isTorn 8 (some .boolean), Cond.fieldLink RX1 16 "AgedLog$Disk" "tornTail" "[I", Cond.methodLink RX1 51 Lib.Math.min.name, Cond.static Lib.Math.min.name, Cond.initialized "java/lang/Math", Cond.code Lib.Math.min.name Lib.Math.min.code 2 (some .int), Cond.methodLink RX1 57 Lib.Math.max.name, Cond.static Lib.Math.max.name, Cond.code Lib.Math.max.name Lib.Math.max.code 2 (some .int)]
def wsX5_fillMemory_r5 : List Cond := [Cond.methodLink RX5 137 yX5_timeAt, Cond.instanceMethod yX5_timeAt, Cond.selects RX5 yX5_timeAt yX5_timeAt, Cond.code yX5_timeAt cX5_timeAt 3 (some .int), Cond.methodLink RX5 158 yX3_noteTime, Cond.instanceMethod yX3_noteTime, Cond.selects RX3 yX3_noteTime yX3_noteTime, Cond.code yX3_noteTime cX3_noteTime 3 none, Cond.fieldLink RX3 24 "AgedLog$Log" "latestTimes" "[I"]
def wsX5_fillMemory : List Cond := .code yX5_fillMemory cX5_fillMemory 2 none :: ((wsX5_fillMemory_r1 ++ (wsX5_fillMemory_r2 ++ (wsX5_fillMemory_r3 ++ (wsX5_fillMemory_r4 ++ wsX5_fillMemory_r5)))) ++ wsX50 ++ wsX10 ++ wsX30)
def wsX6_init : List Cond := .code yX6_init cX6_init 4 none :: ([.methodLink RX6 3 objectInit, .instanceMethod objectInit, .code objectInit ⟨#[0xb1]⟩ 1 none, .arrayClass .byte, .fieldLink RX6 9 "AgedLog$Regions" "row" "[B", .fieldLink RX6 15 "AgedLog$Regions" "number" "I", .fieldLink RX6 19 "AgedLog$Regions" "turn" "I", .fieldLink RX6 22 "AgedLog$Regions" "drive" "LAgedLog$Disk;", .fieldLink RX6 26 "AgedLog$Regions" "log" "LAgedLog$Log;", .fieldLink RX6 30 "AgedLog$Regions" "index" "LAgedLog$Index;"] ++ wsX60)
def wsJ7_fill_031fb : List Cond := .code yJ7_fill_031fb cJ7_fill_031fb 4 none :: ([])
def wsX6_fillRow_r1 : List Cond := [Cond.fieldLink RX6 9 "AgedLog$Regions" "row" "[B", Cond.fieldLink RX6 15 "AgedLog$Regions" "number" "I", Cond.fieldLink RX6 26 "AgedLog$Regions" "log" "LAgedLog$Log;", Cond.fieldLink RX6 30 "AgedLog$Regions" "index" "LAgedLog$Index;", Cond.methodLink RX6 44 yJ7_fill_031fb, Cond.static yJ7_fill_031fb, Cond.initialized RJ7, Cond.code yJ7_fill_031fb cJ7_fill_031fb 4 none, Cond.methodLink RX6 50 yX4_setNumber, Cond.static yX4_setNumber, Cond.initialized RX4, Cond.code yX4_setNumber cX4_setNumber 6 none, Cond.methodLink RX4 7 yX4_isWithin, Cond.static yX4_isWithin, Cond.code yX4_isWithin cX4_isWithin 3 (some .boolean), Cond.methodLink RX6 78 yX2_has, Cond.instanceMethod yX2_has, Cond.selects RX2 yX2_has yX2_has, Cond.initialized RX2, Cond.code yX2_has cX2_has 2 (some .boolean), Cond.fieldLink RX2 9 "AgedLog$Index" "segments" "[I", Cond.static yX7_isKey, Cond.initialized RX7, Cond.code yX7_isKey cX7_isKey 1 (some .boolean)]
def wsX6_fillRow_r2 : List Cond := [Cond.static yX7_isOfLog, Cond.code yX7_isOfLog cX7_isOfLog 1 (some .boolean), Cond.methodLink RX6 82 yX2_segmentOf, Cond.instanceMethod yX2_segmentOf, Cond.selects RX2 yX2_segmentOf yX2_segmentOf, Cond.code yX2_segmentOf cX2_segmentOf 2 (some .int), Cond.methodLink RX6 86 yX2_placeOf, Cond.instanceMethod yX2_placeOf, Cond.selects RX2 yX2_placeOf yX2_placeOf, Cond.code yX2_placeOf cX2_placeOf 2 (some .int), Cond.fieldLink RX2 15 "AgedLog$Index" "places" "[I", Cond.methodLink RX6 89 yX3_isUsed, Cond.instanceMethod yX3_isUsed, Cond.selects RX3 yX3_isUsed yX3_isUsed, Cond.initialized RX3, Cond.code yX3_isUsed cX3_isUsed 2 (some .boolean), Cond.fieldLink RX3 16 "AgedLog$Log" "states" "[I", Cond.methodLink RX6 92 yX4_setSum, Cond.static yX4_setSum, Cond.code yX4_setSum cX4_setSum 3 none, Cond.methodLink RX4 20 yX4_sum, Cond.static yX4_sum, Cond.code yX4_sum cX4_sum 5 (some .int), Cond.constant RX4 19 (-1640531535)]
def wsX6_fillRow_r3 : List Cond := [Cond.methodLink RX4 13 yJ6_rotateLeft_7cf53, Cond.static yJ6_rotateLeft_7cf53, Cond.initialized RJ6, Cond.code yJ6_rotateLeft_7cf53 cJ6_rotateLeft_7cf53 2 (some .int), Cond.methodLink RX4 24 yX4_setNumber]
def wsX6_fillRow : List Cond := .code yX6_fillRow cX6_fillRow 3 (some .int) :: ((wsX6_fillRow_r1 ++ (wsX6_fillRow_r2 ++ wsX6_fillRow_r3)) ++ wsX60 ++ wsX30 ++ wsX20)
def wsX6_write_r1 : List Cond := [Cond.fieldLink RX6 22 "AgedLog$Regions" "drive" "LAgedLog$Disk;", Cond.fieldLink RX6 19 "AgedLog$Regions" "turn" "I", Cond.fieldLink RX6 9 "AgedLog$Regions" "row" "[B", Cond.fieldLink RX6 15 "AgedLog$Regions" "number" "I", Cond.methodLink RX6 34 yX6_fillRow, Cond.instanceMethod yX6_fillRow, Cond.selects RX6 yX6_fillRow yX6_fillRow, Cond.initialized RX6, Cond.code yX6_fillRow cX6_fillRow 3 (some .int), Cond.fieldLink RX6 26 "AgedLog$Regions" "log" "LAgedLog$Log;", Cond.fieldLink RX6 30 "AgedLog$Regions" "index" "LAgedLog$Index;", Cond.methodLink RX6 44 yJ7_fill_031fb, Cond.static yJ7_fill_031fb, Cond.initialized RJ7, Cond.code yJ7_fill_031fb cJ7_fill_031fb 4 none, Cond.methodLink RX6 50 yX4_setNumber, Cond.static yX4_setNumber, Cond.initialized RX4, Cond.code yX4_setNumber cX4_setNumber 6 none, Cond.methodLink RX4 7 yX4_isWithin, Cond.static yX4_isWithin, Cond.code yX4_isWithin cX4_isWithin 3 (some .boolean), Cond.methodLink RX6 78 yX2_has, Cond.instanceMethod yX2_has]
def wsX6_write_r2 : List Cond := [Cond.selects RX2 yX2_has yX2_has, Cond.initialized RX2, Cond.code yX2_has cX2_has 2 (some .boolean), Cond.fieldLink RX2 9 "AgedLog$Index" "segments" "[I", Cond.static yX7_isKey, Cond.initialized RX7, Cond.code yX7_isKey cX7_isKey 1 (some .boolean), Cond.static yX7_isOfLog, Cond.code yX7_isOfLog cX7_isOfLog 1 (some .boolean), Cond.methodLink RX6 82 yX2_segmentOf, Cond.instanceMethod yX2_segmentOf, Cond.selects RX2 yX2_segmentOf yX2_segmentOf, Cond.code yX2_segmentOf cX2_segmentOf 2 (some .int), Cond.methodLink RX6 86 yX2_placeOf, Cond.instanceMethod yX2_placeOf, Cond.selects RX2 yX2_placeOf yX2_placeOf, Cond.code yX2_placeOf cX2_placeOf 2 (some .int), Cond.fieldLink RX2 15 "AgedLog$Index" "places" "[I", Cond.methodLink RX6 89 yX3_isUsed, Cond.instanceMethod yX3_isUsed, Cond.selects RX3 yX3_isUsed yX3_isUsed, Cond.initialized RX3, Cond.code yX3_isUsed cX3_isUsed 2 (some .boolean), Cond.fieldLink RX3 16 "AgedLog$Log" "states" "[I"]
def wsX6_write_r3 : List Cond := [Cond.methodLink RX6 92 yX4_setSum, Cond.static yX4_setSum, Cond.code yX4_setSum cX4_setSum 3 none, Cond.methodLink RX4 20 yX4_sum, Cond.static yX4_sum, Cond.code yX4_sum cX4_sum 5 (some .int), Cond.constant RX4 19 (-1640531535), Cond.methodLink RX4 13 yJ6_rotateLeft_7cf53, Cond.static yJ6_rotateLeft_7cf53, Cond.initialized RJ6, Cond.code yJ6_rotateLeft_7cf53 cJ6_rotateLeft_7cf53 2 (some .int), Cond.methodLink RX4 24 yX4_setNumber, Cond.methodLink RX6 38 yX1_write, Cond.instanceMethod yX1_write, Cond.selects RX1 yX1_write yX1_write, Cond.initialized RX1, Cond.code yX1_write cX1_write 7 (some .boolean), Cond.fieldLink RX1 16 "AgedLog$Disk" "tornTail" "[I", Cond.fieldLink RX1 24 "AgedLog$Disk" "sectorsToCut" "I", Cond.fieldLink RX1 10 "AgedLog$Disk" "row" "[B", Cond.fieldLink RX1 27 "AgedLog$Disk" "octetsToCut" "I", Cond.fieldLink RX1 20 "AgedLog$Disk" "written" "I", Cond.methodLink RX1 57 Lib.Math.max.name, Cond.static Lib.Math.max.name]
def wsX6_write_r4 : List Cond := [Cond.initialized "java/lang/Math", Cond.code Lib.Math.max.name Lib.Math.max.code 2 (some .int), Cond.methodLink RX1 60 yX4_copy, Cond.static yX4_copy, Cond.code yX4_copy cX4_copy 5 none, Cond.methodLink RX4 28 arraycopyName, Cond.native arraycopyName, Cond.static arraycopyName, Cond.initialized "java/lang/System"]
def wsX6_write : List Cond := .code yX6_write cX6_write 3 (some .boolean) :: ((wsX6_write_r1 ++ (wsX6_write_r2 ++ (wsX6_write_r3 ++ wsX6_write_r4))) ++ wsX60 ++ wsX30 ++ wsX20 ++ wsX10)
def wsX7_init_r1 : List Cond := [Cond.methodLink RX7 1 objectInit, Cond.instanceMethod objectInit, Cond.code objectInit ⟨#[0xb1]⟩ 1 none, Cond.classLink RX7 7 RX1, Cond.instantiable RX1 5, Cond.initialized RX1, Cond.fieldLink RX7 10 "AgedLog" "drive" "LAgedLog$Disk;", Cond.classLink RX7 16 RX2, Cond.instantiable RX2 3, Cond.initialized RX2, Cond.fieldLink RX7 19 "AgedLog" "index" "LAgedLog$Index;", Cond.classLink RX7 23 RX3, Cond.instantiable RX3 14, Cond.initialized RX3, Cond.fieldLink RX7 28 "AgedLog" "log" "LAgedLog$Log;", Cond.classLink RX7 32 RX0, Cond.instantiable RX0 6, Cond.initialized RX0, Cond.fieldLink RX7 37 "AgedLog" "cleaner" "LAgedLog$Cleaner;", Cond.classLink RX7 41 RX6, Cond.instantiable RX6 6, Cond.initialized RX6, Cond.fieldLink RX7 46 "AgedLog" "regions" "LAgedLog$Regions;", Cond.classLink RX7 50 RX5]
def wsX7_init_r2 : List Cond := [Cond.instantiable RX5 4, Cond.initialized RX5, Cond.fieldLink RX7 55 "AgedLog" "recovery" "LAgedLog$Recovery;", Cond.arrayClass .byte, Cond.fieldLink RX7 59 "AgedLog" "hand" "[B", Cond.fieldLink RX7 63 "AgedLog" "handLength" "I", Cond.fieldLink RX7 67 "AgedLog" "down" "Z", Cond.instanceMethod yX1_init, Cond.code yX1_init cX1_init 1 none, Cond.methodLink RX1 3 objectInit, Cond.constant RX1 9 (65536), Cond.fieldLink RX1 10 "AgedLog$Disk" "row" "[B", Cond.arrayClass .int, Cond.fieldLink RX1 16 "AgedLog$Disk" "tornTail" "[I", Cond.fieldLink RX1 20 "AgedLog$Disk" "written" "I", Cond.fieldLink RX1 24 "AgedLog$Disk" "sectorsToCut" "I", Cond.fieldLink RX1 27 "AgedLog$Disk" "octetsToCut" "I", Cond.instanceMethod yX2_init, Cond.code yX2_init cX2_init 1 none, Cond.methodLink RX2 3 objectInit, Cond.fieldLink RX2 9 "AgedLog$Index" "segments" "[I", Cond.fieldLink RX2 15 "AgedLog$Index" "places" "[I", Cond.fieldLink RX2 18 "AgedLog$Index" "count" "I", Cond.methodLink RX7 25 yX3_init]
def wsX7_init_r3 : List Cond := [Cond.instanceMethod yX3_init, Cond.code yX3_init cX3_init 2 none, Cond.methodLink RX3 3 objectInit, Cond.constant RX3 9 (65536), Cond.fieldLink RX3 10 "AgedLog$Log" "memory" "[B", Cond.fieldLink RX3 16 "AgedLog$Log" "states" "[I", Cond.arrayClass .boolean, Cond.fieldLink RX3 20 "AgedLog$Log" "hasRecords" "[Z", Cond.fieldLink RX3 24 "AgedLog$Log" "latestTimes" "[I", Cond.fieldLink RX3 27 "AgedLog$Log" "fresh" "[I", Cond.fieldLink RX3 30 "AgedLog$Log" "freshFrom" "[I", Cond.fieldLink RX3 33 "AgedLog$Log" "freshTo" "[I", Cond.fieldLink RX3 36 "AgedLog$Log" "freshCount" "I", Cond.fieldLink RX3 40 "AgedLog$Log" "open" "I", Cond.fieldLink RX3 43 "AgedLog$Log" "place" "I", Cond.fieldLink RX3 46 "AgedLog$Log" "order" "I", Cond.fieldLink RX3 49 "AgedLog$Log" "nextSequence" "I", Cond.fieldLink RX3 52 "AgedLog$Log" "clock" "I", Cond.fieldLink RX3 55 "AgedLog$Log" "index" "LAgedLog$Index;", Cond.methodLink RX7 34 yX0_init, Cond.instanceMethod yX0_init, Cond.code yX0_init cX0_init 3 none, Cond.methodLink RX0 3 objectInit, Cond.fieldLink RX0 9 "AgedLog$Cleaner" "chosen" "[Z"]
def wsX7_init_r4 : List Cond := [Cond.fieldLink RX0 15 "AgedLog$Cleaner" "live" "[I", Cond.fieldLink RX0 19 "AgedLog$Cleaner" "aged" "[I", Cond.fieldLink RX0 22 "AgedLog$Cleaner" "agedCount" "I", Cond.fieldLink RX0 26 "AgedLog$Cleaner" "log" "LAgedLog$Log;", Cond.fieldLink RX0 30 "AgedLog$Cleaner" "index" "LAgedLog$Index;", Cond.methodLink RX7 43 yX6_init, Cond.instanceMethod yX6_init, Cond.code yX6_init cX6_init 4 none, Cond.methodLink RX6 3 objectInit, Cond.fieldLink RX6 9 "AgedLog$Regions" "row" "[B", Cond.fieldLink RX6 15 "AgedLog$Regions" "number" "I", Cond.fieldLink RX6 19 "AgedLog$Regions" "turn" "I", Cond.fieldLink RX6 22 "AgedLog$Regions" "drive" "LAgedLog$Disk;", Cond.fieldLink RX6 26 "AgedLog$Regions" "log" "LAgedLog$Log;", Cond.fieldLink RX6 30 "AgedLog$Regions" "index" "LAgedLog$Index;", Cond.methodLink RX7 52 yX5_init, Cond.instanceMethod yX5_init, Cond.code yX5_init cX5_init 5 none, Cond.methodLink RX5 3 objectInit, Cond.fieldLink RX5 9 "AgedLog$Recovery" "drive" "LAgedLog$Disk;", Cond.fieldLink RX5 15 "AgedLog$Recovery" "log" "LAgedLog$Log;", Cond.fieldLink RX5 19 "AgedLog$Recovery" "index" "LAgedLog$Index;", Cond.fieldLink RX5 23 "AgedLog$Recovery" "regions" "LAgedLog$Regions;"]
def wsX7_init : List Cond := .code yX7_init cX7_init 1 none :: ((wsX7_init_r1 ++ (wsX7_init_r2 ++ (wsX7_init_r3 ++ wsX7_init_r4))) ++ wsX10 ++ wsX70 ++ wsX20 ++ wsX30 ++ wsX00 ++ wsX60 ++ wsX50)
def wsX7_feed : List Cond := .code yX7_feed cX7_feed 5 (some .int) :: ([.fieldLink RX7 63 "AgedLog" "handLength" "I", .fieldLink RX7 59 "AgedLog" "hand" "[B"] ++ wsX70)
def wsX7_put_r1 : List Cond := [Cond.fieldLink RX7 67 "AgedLog" "down" "Z", Cond.fieldLink RX7 28 "AgedLog" "log" "LAgedLog$Log;", Cond.fieldLink RX7 63 "AgedLog" "handLength" "I", Cond.fieldLink RX7 59 "AgedLog" "hand" "[B", Cond.methodLink RX7 71 yX7_isKey, Cond.static yX7_isKey, Cond.initialized RX7, Cond.code yX7_isKey cX7_isKey 1 (some .boolean), Cond.methodLink RX7 75 yX3_hasRoomFor, Cond.instanceMethod yX3_hasRoomFor, Cond.selects RX3 yX3_hasRoomFor yX3_hasRoomFor, Cond.initialized RX3, Cond.code yX3_hasRoomFor cX3_hasRoomFor 2 (some .boolean), Cond.methodLink RX3 90 yX3_fits, Cond.instanceMethod yX3_fits, Cond.selects RX3 yX3_fits yX3_fits, Cond.code yX3_fits cX3_fits 2 (some .boolean), Cond.fieldLink RX3 40 "AgedLog$Log" "open" "I", Cond.fieldLink RX3 43 "AgedLog$Log" "place" "I", Cond.methodLink RX3 93 yX3_countFree, Cond.instanceMethod yX3_countFree, Cond.selects RX3 yX3_countFree yX3_countFree, Cond.code yX3_countFree cX3_countFree 3 (some .int), Cond.fieldLink RX3 16 "AgedLog$Log" "states" "[I"]
def wsX7_put_r2 : List Cond := [Cond.methodLink RX7 81 yX3_append, Cond.instanceMethod yX3_append, Cond.selects RX3 yX3_append yX3_append, Cond.code yX3_append cX3_append 9 (some .int), Cond.fieldLink RX3 49 "AgedLog$Log" "nextSequence" "I", Cond.fieldLink RX3 10 "AgedLog$Log" "memory" "[B", Cond.fieldLink RX3 55 "AgedLog$Log" "index" "LAgedLog$Index;", Cond.methodLink RX3 97 yX3_openNext, Cond.instanceMethod yX3_openNext, Cond.selects RX3 yX3_openNext yX3_openNext, Cond.code yX3_openNext cX3_openNext 3 none, Cond.fieldLink RX3 46 "AgedLog$Log" "order" "I", Cond.methodLink RX3 124 yX3_leastFree, Cond.instanceMethod yX3_leastFree, Cond.selects RX3 yX3_leastFree yX3_leastFree, Cond.code yX3_leastFree cX3_leastFree 2 (some .int), Cond.methodLink RX3 127 yX3_use, Cond.instanceMethod yX3_use, Cond.selects RX3 yX3_use yX3_use, Cond.code yX3_use cX3_use 2 none, Cond.static yX7_isOfLog, Cond.code yX7_isOfLog cX7_isOfLog 1 (some .boolean), Cond.methodLink RX3 130 yX3_forgetTimes, Cond.instanceMethod yX3_forgetTimes]
def wsX7_put_r3 : List Cond := [Cond.selects RX3 yX3_forgetTimes yX3_forgetTimes, Cond.code yX3_forgetTimes cX3_forgetTimes 2 none, Cond.fieldLink RX3 20 "AgedLog$Log" "hasRecords" "[Z", Cond.methodLink RX3 133 yX4_clear, Cond.static yX4_clear, Cond.initialized RX4, Cond.code yX4_clear cX4_clear 4 none, Cond.methodLink RX4 7 yX4_isWithin, Cond.static yX4_isWithin, Cond.code yX4_isWithin cX4_isWithin 3 (some .boolean), Cond.methodLink RX3 100 yX4_setNumber, Cond.static yX4_setNumber, Cond.code yX4_setNumber cX4_setNumber 6 none, Cond.methodLink RX3 108 yX4_setSum, Cond.static yX4_setSum, Cond.code yX4_setSum cX4_setSum 3 none, Cond.methodLink RX4 20 yX4_sum, Cond.static yX4_sum, Cond.code yX4_sum cX4_sum 5 (some .int), Cond.constant RX4 19 (-1640531535), Cond.methodLink RX4 13 yJ6_rotateLeft_7cf53, Cond.static yJ6_rotateLeft_7cf53, Cond.initialized RJ6, Cond.code yJ6_rotateLeft_7cf53 cJ6_rotateLeft_7cf53 2 (some .int)]
def wsX7_put_r4 : List Cond := [Cond.methodLink RX4 24 yX4_setNumber, Cond.methodLink RX3 120 yX3_noteFresh, Cond.instanceMethod yX3_noteFresh, Cond.selects RX3 yX3_noteFresh yX3_noteFresh, Cond.code yX3_noteFresh cX3_noteFresh 3 none, Cond.fieldLink RX3 36 "AgedLog$Log" "freshCount" "I", Cond.fieldLink RX3 27 "AgedLog$Log" "fresh" "[I", Cond.fieldLink RX3 30 "AgedLog$Log" "freshFrom" "[I", Cond.fieldLink RX3 33 "AgedLog$Log" "freshTo" "[I", Cond.methodLink RX3 104 yX4_copy, Cond.static yX4_copy, Cond.code yX4_copy cX4_copy 5 none, Cond.methodLink RX4 28 arraycopyName, Cond.native arraycopyName, Cond.static arraycopyName, Cond.initialized "java/lang/System", Cond.methodLink RX3 112 yX2_follow, Cond.instanceMethod yX2_follow, Cond.selects RX2 yX2_follow yX2_follow, Cond.initialized RX2, Cond.code yX2_follow cX2_follow 5 none, Cond.fieldLink RX2 9 "AgedLog$Index" "segments" "[I", Cond.fieldLink RX2 18 "AgedLog$Index" "count" "I", Cond.fieldLink RX2 15 "AgedLog$Index" "places" "[I"]
def wsX7_put_r5 : List Cond := [Cond.methodLink RX3 116 yX3_noteTime, Cond.instanceMethod yX3_noteTime, Cond.selects RX3 yX3_noteTime yX3_noteTime, Cond.code yX3_noteTime cX3_noteTime 3 none, Cond.fieldLink RX3 24 "AgedLog$Log" "latestTimes" "[I"]
def wsX7_put : List Cond := .code yX7_put cX7_put 3 (some .int) :: ((wsX7_put_r1 ++ (wsX7_put_r2 ++ (wsX7_put_r3 ++ (wsX7_put_r4 ++ wsX7_put_r5)))) ++ wsX70 ++ wsX30 ++ wsX20)
def wsX7_remove_r1 : List Cond := [Cond.fieldLink RX7 67 "AgedLog" "down" "Z", Cond.fieldLink RX7 19 "AgedLog" "index" "LAgedLog$Index;", Cond.fieldLink RX7 28 "AgedLog" "log" "LAgedLog$Log;", Cond.fieldLink RX7 59 "AgedLog" "hand" "[B", Cond.methodLink RX7 85 yX2_has, Cond.instanceMethod yX2_has, Cond.selects RX2 yX2_has yX2_has, Cond.initialized RX2, Cond.code yX2_has cX2_has 2 (some .boolean), Cond.fieldLink RX2 9 "AgedLog$Index" "segments" "[I", Cond.static yX7_isKey, Cond.initialized RX7, Cond.code yX7_isKey cX7_isKey 1 (some .boolean), Cond.static yX7_isOfLog, Cond.code yX7_isOfLog cX7_isOfLog 1 (some .boolean), Cond.methodLink RX7 75 yX3_hasRoomFor, Cond.instanceMethod yX3_hasRoomFor, Cond.selects RX3 yX3_hasRoomFor yX3_hasRoomFor, Cond.initialized RX3, Cond.code yX3_hasRoomFor cX3_hasRoomFor 2 (some .boolean), Cond.methodLink RX3 90 yX3_fits, Cond.instanceMethod yX3_fits, Cond.selects RX3 yX3_fits yX3_fits, Cond.code yX3_fits cX3_fits 2 (some .boolean)]
def wsX7_remove_r2 : List Cond := [Cond.fieldLink RX3 40 "AgedLog$Log" "open" "I", Cond.fieldLink RX3 43 "AgedLog$Log" "place" "I", Cond.methodLink RX3 93 yX3_countFree, Cond.instanceMethod yX3_countFree, Cond.selects RX3 yX3_countFree yX3_countFree, Cond.code yX3_countFree cX3_countFree 3 (some .int), Cond.fieldLink RX3 16 "AgedLog$Log" "states" "[I", Cond.methodLink RX7 81 yX3_append, Cond.instanceMethod yX3_append, Cond.selects RX3 yX3_append yX3_append, Cond.code yX3_append cX3_append 9 (some .int), Cond.fieldLink RX3 49 "AgedLog$Log" "nextSequence" "I", Cond.fieldLink RX3 10 "AgedLog$Log" "memory" "[B", Cond.fieldLink RX3 55 "AgedLog$Log" "index" "LAgedLog$Index;", Cond.methodLink RX3 97 yX3_openNext, Cond.instanceMethod yX3_openNext, Cond.selects RX3 yX3_openNext yX3_openNext, Cond.code yX3_openNext cX3_openNext 3 none, Cond.fieldLink RX3 46 "AgedLog$Log" "order" "I", Cond.methodLink RX3 124 yX3_leastFree, Cond.instanceMethod yX3_leastFree, Cond.selects RX3 yX3_leastFree yX3_leastFree, Cond.code yX3_leastFree cX3_leastFree 2 (some .int), Cond.methodLink RX3 127 yX3_use]
def wsX7_remove_r3 : List Cond := [Cond.instanceMethod yX3_use, Cond.selects RX3 yX3_use yX3_use, Cond.code yX3_use cX3_use 2 none, Cond.methodLink RX3 130 yX3_forgetTimes, Cond.instanceMethod yX3_forgetTimes, Cond.selects RX3 yX3_forgetTimes yX3_forgetTimes, Cond.code yX3_forgetTimes cX3_forgetTimes 2 none, Cond.fieldLink RX3 20 "AgedLog$Log" "hasRecords" "[Z", Cond.methodLink RX3 133 yX4_clear, Cond.static yX4_clear, Cond.initialized RX4, Cond.code yX4_clear cX4_clear 4 none, Cond.methodLink RX4 7 yX4_isWithin, Cond.static yX4_isWithin, Cond.code yX4_isWithin cX4_isWithin 3 (some .boolean), Cond.methodLink RX3 100 yX4_setNumber, Cond.static yX4_setNumber, Cond.code yX4_setNumber cX4_setNumber 6 none, Cond.methodLink RX3 108 yX4_setSum, Cond.static yX4_setSum, Cond.code yX4_setSum cX4_setSum 3 none, Cond.methodLink RX4 20 yX4_sum, Cond.static yX4_sum, Cond.code yX4_sum cX4_sum 5 (some .int)]
def wsX7_remove_r4 : List Cond := [Cond.constant RX4 19 (-1640531535), Cond.methodLink RX4 13 yJ6_rotateLeft_7cf53, Cond.static yJ6_rotateLeft_7cf53, Cond.initialized RJ6, Cond.code yJ6_rotateLeft_7cf53 cJ6_rotateLeft_7cf53 2 (some .int), Cond.methodLink RX4 24 yX4_setNumber, Cond.methodLink RX3 120 yX3_noteFresh, Cond.instanceMethod yX3_noteFresh, Cond.selects RX3 yX3_noteFresh yX3_noteFresh, Cond.code yX3_noteFresh cX3_noteFresh 3 none, Cond.fieldLink RX3 36 "AgedLog$Log" "freshCount" "I", Cond.fieldLink RX3 27 "AgedLog$Log" "fresh" "[I", Cond.fieldLink RX3 30 "AgedLog$Log" "freshFrom" "[I", Cond.fieldLink RX3 33 "AgedLog$Log" "freshTo" "[I", Cond.methodLink RX3 104 yX4_copy, Cond.static yX4_copy, Cond.code yX4_copy cX4_copy 5 none, Cond.methodLink RX4 28 arraycopyName, Cond.native arraycopyName, Cond.static arraycopyName, Cond.initialized "java/lang/System", Cond.methodLink RX3 112 yX2_follow, Cond.instanceMethod yX2_follow, Cond.selects RX2 yX2_follow yX2_follow]
def wsX7_remove_r5 : List Cond := [Cond.code yX2_follow cX2_follow 5 none, Cond.fieldLink RX2 18 "AgedLog$Index" "count" "I", Cond.fieldLink RX2 15 "AgedLog$Index" "places" "[I", Cond.methodLink RX3 116 yX3_noteTime, Cond.instanceMethod yX3_noteTime, Cond.selects RX3 yX3_noteTime yX3_noteTime, Cond.code yX3_noteTime cX3_noteTime 3 none, Cond.fieldLink RX3 24 "AgedLog$Log" "latestTimes" "[I"]
def wsX7_remove : List Cond := .code yX7_remove cX7_remove 2 (some .int) :: ((wsX7_remove_r1 ++ (wsX7_remove_r2 ++ (wsX7_remove_r3 ++ (wsX7_remove_r4 ++ wsX7_remove_r5)))) ++ wsX70 ++ wsX30 ++ wsX20)
def wsX7_size_r1 : List Cond := [Cond.fieldLink RX7 67 "AgedLog" "down" "Z", Cond.fieldLink RX7 19 "AgedLog" "index" "LAgedLog$Index;", Cond.fieldLink RX7 28 "AgedLog" "log" "LAgedLog$Log;", Cond.methodLink RX7 85 yX2_has, Cond.instanceMethod yX2_has, Cond.selects RX2 yX2_has yX2_has, Cond.initialized RX2, Cond.code yX2_has cX2_has 2 (some .boolean), Cond.fieldLink RX2 9 "AgedLog$Index" "segments" "[I", Cond.static yX7_isKey, Cond.initialized RX7, Cond.code yX7_isKey cX7_isKey 1 (some .boolean), Cond.static yX7_isOfLog, Cond.code yX7_isOfLog cX7_isOfLog 1 (some .boolean), Cond.methodLink RX7 88 yX3_lengthOf, Cond.instanceMethod yX3_lengthOf, Cond.selects RX3 yX3_lengthOf yX3_lengthOf, Cond.initialized RX3, Cond.code yX3_lengthOf cX3_lengthOf 2 (some .int), Cond.fieldLink RX3 10 "AgedLog$Log" "memory" "[B", Cond.fieldLink RX3 55 "AgedLog$Log" "index" "LAgedLog$Index;", Cond.methodLink RX3 75 yX2_addressOf, Cond.instanceMethod yX2_addressOf, Cond.selects RX2 yX2_addressOf yX2_addressOf]
def wsX7_size_r2 : List Cond := [Cond.code yX2_addressOf cX2_addressOf 2 (some .int), Cond.fieldLink RX2 15 "AgedLog$Index" "places" "[I", Cond.methodLink RX3 69 yX4_number, Cond.static yX4_number, Cond.initialized RX4, Cond.code yX4_number cX4_number 5 (some .int), Cond.methodLink RX4 7 yX4_isWithin, Cond.static yX4_isWithin, Cond.code yX4_isWithin cX4_isWithin 3 (some .boolean)]
def wsX7_size : List Cond := .code yX7_size cX7_size 2 (some .int) :: ((wsX7_size_r1 ++ wsX7_size_r2) ++ wsX70 ++ wsX20 ++ wsX30)
def wsX7_value_r1 : List Cond := [Cond.fieldLink RX7 67 "AgedLog" "down" "Z", Cond.fieldLink RX7 19 "AgedLog" "index" "LAgedLog$Index;", Cond.fieldLink RX7 28 "AgedLog" "log" "LAgedLog$Log;", Cond.methodLink RX7 85 yX2_has, Cond.instanceMethod yX2_has, Cond.selects RX2 yX2_has yX2_has, Cond.initialized RX2, Cond.code yX2_has cX2_has 2 (some .boolean), Cond.fieldLink RX2 9 "AgedLog$Index" "segments" "[I", Cond.static yX7_isKey, Cond.initialized RX7, Cond.code yX7_isKey cX7_isKey 1 (some .boolean), Cond.static yX7_isOfLog, Cond.code yX7_isOfLog cX7_isOfLog 1 (some .boolean), Cond.methodLink RX7 88 yX3_lengthOf, Cond.instanceMethod yX3_lengthOf, Cond.selects RX3 yX3_lengthOf yX3_lengthOf, Cond.initialized RX3, Cond.code yX3_lengthOf cX3_lengthOf 2 (some .int), Cond.fieldLink RX3 10 "AgedLog$Log" "memory" "[B", Cond.fieldLink RX3 55 "AgedLog$Log" "index" "LAgedLog$Index;", Cond.methodLink RX3 75 yX2_addressOf, Cond.instanceMethod yX2_addressOf, Cond.selects RX2 yX2_addressOf yX2_addressOf]
def wsX7_value_r2 : List Cond := [Cond.code yX2_addressOf cX2_addressOf 2 (some .int), Cond.fieldLink RX2 15 "AgedLog$Index" "places" "[I", Cond.methodLink RX3 69 yX4_number, Cond.static yX4_number, Cond.initialized RX4, Cond.code yX4_number cX4_number 5 (some .int), Cond.methodLink RX4 7 yX4_isWithin, Cond.static yX4_isWithin, Cond.code yX4_isWithin cX4_isWithin 3 (some .boolean), Cond.methodLink RX7 95 yX2_addressOf, Cond.methodLink RX7 98 yX4_number]
def wsX7_value : List Cond := .code yX7_value cX7_value 3 (some .int) :: ((wsX7_value_r1 ++ wsX7_value_r2) ++ wsX70 ++ wsX30 ++ wsX20)
def wsX7_sync_r1 : List Cond := [Cond.fieldLink RX7 67 "AgedLog" "down" "Z", Cond.fieldLink RX7 28 "AgedLog" "log" "LAgedLog$Log;", Cond.fieldLink RX7 10 "AgedLog" "drive" "LAgedLog$Disk;", Cond.methodLink RX7 104 yX3_writeFresh, Cond.instanceMethod yX3_writeFresh, Cond.selects RX3 yX3_writeFresh yX3_writeFresh, Cond.initialized RX3, Cond.code yX3_writeFresh cX3_writeFresh 5 (some .int), Cond.fieldLink RX3 36 "AgedLog$Log" "freshCount" "I", Cond.fieldLink RX3 27 "AgedLog$Log" "fresh" "[I", Cond.methodLink RX3 136 yX3_writeFreshOf, Cond.instanceMethod yX3_writeFreshOf, Cond.selects RX3 yX3_writeFreshOf yX3_writeFreshOf, Cond.code yX3_writeFreshOf cX3_writeFreshOf 8 (some .int), Cond.fieldLink RX3 30 "AgedLog$Log" "freshFrom" "[I", Cond.fieldLink RX3 33 "AgedLog$Log" "freshTo" "[I", Cond.methodLink RX3 144 Lib.Math.max.name, Cond.static Lib.Math.max.name, Cond.initialized "java/lang/Math", Cond.code Lib.Math.max.name Lib.Math.max.code 2 (some .int), Cond.methodLink RX3 140 yX3_writeSector, Cond.instanceMethod yX3_writeSector, Cond.selects RX3 yX3_writeSector yX3_writeSector, Cond.code yX3_writeSector cX3_writeSector 6 (some .boolean)]
def wsX7_sync_r2 : List Cond := [Cond.fieldLink RX3 10 "AgedLog$Log" "memory" "[B", Cond.methodLink RX3 150 yX1_write, Cond.instanceMethod yX1_write, Cond.selects RX1 yX1_write yX1_write, Cond.initialized RX1, Cond.code yX1_write cX1_write 7 (some .boolean), Cond.fieldLink RX1 16 "AgedLog$Disk" "tornTail" "[I", Cond.fieldLink RX1 24 "AgedLog$Disk" "sectorsToCut" "I", Cond.fieldLink RX1 10 "AgedLog$Disk" "row" "[B", Cond.fieldLink RX1 27 "AgedLog$Disk" "octetsToCut" "I", Cond.fieldLink RX1 20 "AgedLog$Disk" "written" "I", Cond.methodLink RX1 57 Lib.Math.max.name, Cond.methodLink RX1 60 yX4_copy, Cond.static yX4_copy, Cond.initialized RX4, Cond.code yX4_copy cX4_copy 5 none, Cond.methodLink RX4 28 arraycopyName, Cond.native arraycopyName, Cond.static arraycopyName, Cond.initialized "java/lang/System", Cond.methodLink RX4 7 yX4_isWithin, Cond.static yX4_isWithin, Cond.code yX4_isWithin cX4_isWithin 3 (some .boolean)]
def wsX7_sync : List Cond := .code yX7_sync cX7_sync 2 (some .int) :: ((wsX7_sync_r1 ++ wsX7_sync_r2) ++ wsX70 ++ wsX30 ++ wsX10)
def wsX7_checkpoint_r1 : List Cond := [Cond.fieldLink RX7 67 "AgedLog" "down" "Z", Cond.fieldLink RX7 28 "AgedLog" "log" "LAgedLog$Log;", Cond.fieldLink RX7 10 "AgedLog" "drive" "LAgedLog$Disk;", Cond.fieldLink RX7 46 "AgedLog" "regions" "LAgedLog$Regions;", Cond.methodLink RX7 104 yX3_writeFresh, Cond.instanceMethod yX3_writeFresh, Cond.selects RX3 yX3_writeFresh yX3_writeFresh, Cond.initialized RX3, Cond.code yX3_writeFresh cX3_writeFresh 5 (some .int), Cond.fieldLink RX3 36 "AgedLog$Log" "freshCount" "I", Cond.fieldLink RX3 27 "AgedLog$Log" "fresh" "[I", Cond.methodLink RX3 136 yX3_writeFreshOf, Cond.instanceMethod yX3_writeFreshOf, Cond.selects RX3 yX3_writeFreshOf yX3_writeFreshOf, Cond.code yX3_writeFreshOf cX3_writeFreshOf 8 (some .int), Cond.fieldLink RX3 30 "AgedLog$Log" "freshFrom" "[I", Cond.fieldLink RX3 33 "AgedLog$Log" "freshTo" "[I", Cond.methodLink RX3 144 Lib.Math.max.name, Cond.static Lib.Math.max.name, Cond.initialized "java/lang/Math", Cond.code Lib.Math.max.name Lib.Math.max.code 2 (some .int), Cond.methodLink RX3 140 yX3_writeSector, Cond.instanceMethod yX3_writeSector, Cond.selects RX3 yX3_writeSector yX3_writeSector]
def wsX7_checkpoint_r2 : List Cond := [Cond.code yX3_writeSector cX3_writeSector 6 (some .boolean), Cond.fieldLink RX3 10 "AgedLog$Log" "memory" "[B", Cond.methodLink RX3 150 yX1_write, Cond.instanceMethod yX1_write, Cond.selects RX1 yX1_write yX1_write, Cond.initialized RX1, Cond.code yX1_write cX1_write 7 (some .boolean), Cond.fieldLink RX1 16 "AgedLog$Disk" "tornTail" "[I", Cond.fieldLink RX1 24 "AgedLog$Disk" "sectorsToCut" "I", Cond.fieldLink RX1 10 "AgedLog$Disk" "row" "[B", Cond.fieldLink RX1 27 "AgedLog$Disk" "octetsToCut" "I", Cond.fieldLink RX1 20 "AgedLog$Disk" "written" "I", Cond.methodLink RX1 57 Lib.Math.max.name, Cond.methodLink RX1 60 yX4_copy, Cond.static yX4_copy, Cond.initialized RX4, Cond.code yX4_copy cX4_copy 5 none, Cond.methodLink RX4 28 arraycopyName, Cond.native arraycopyName, Cond.static arraycopyName, Cond.initialized "java/lang/System", Cond.methodLink RX4 7 yX4_isWithin, Cond.static yX4_isWithin, Cond.code yX4_isWithin cX4_isWithin 3 (some .boolean)]
def wsX7_checkpoint_r3 : List Cond := [Cond.methodLink RX7 108 yX6_write, Cond.instanceMethod yX6_write, Cond.selects RX6 yX6_write yX6_write, Cond.initialized RX6, Cond.code yX6_write cX6_write 3 (some .boolean), Cond.fieldLink RX6 22 "AgedLog$Regions" "drive" "LAgedLog$Disk;", Cond.fieldLink RX6 19 "AgedLog$Regions" "turn" "I", Cond.fieldLink RX6 9 "AgedLog$Regions" "row" "[B", Cond.fieldLink RX6 15 "AgedLog$Regions" "number" "I", Cond.methodLink RX6 34 yX6_fillRow, Cond.instanceMethod yX6_fillRow, Cond.selects RX6 yX6_fillRow yX6_fillRow, Cond.code yX6_fillRow cX6_fillRow 3 (some .int), Cond.fieldLink RX6 26 "AgedLog$Regions" "log" "LAgedLog$Log;", Cond.fieldLink RX6 30 "AgedLog$Regions" "index" "LAgedLog$Index;", Cond.methodLink RX6 44 yJ7_fill_031fb, Cond.static yJ7_fill_031fb, Cond.initialized RJ7, Cond.code yJ7_fill_031fb cJ7_fill_031fb 4 none, Cond.methodLink RX6 50 yX4_setNumber, Cond.static yX4_setNumber, Cond.code yX4_setNumber cX4_setNumber 6 none, Cond.methodLink RX6 78 yX2_has, Cond.instanceMethod yX2_has]
def wsX7_checkpoint_r4 : List Cond := [Cond.selects RX2 yX2_has yX2_has, Cond.initialized RX2, Cond.code yX2_has cX2_has 2 (some .boolean), Cond.fieldLink RX2 9 "AgedLog$Index" "segments" "[I", Cond.static yX7_isKey, Cond.initialized RX7, Cond.code yX7_isKey cX7_isKey 1 (some .boolean), Cond.static yX7_isOfLog, Cond.code yX7_isOfLog cX7_isOfLog 1 (some .boolean), Cond.methodLink RX6 82 yX2_segmentOf, Cond.instanceMethod yX2_segmentOf, Cond.selects RX2 yX2_segmentOf yX2_segmentOf, Cond.code yX2_segmentOf cX2_segmentOf 2 (some .int), Cond.methodLink RX6 86 yX2_placeOf, Cond.instanceMethod yX2_placeOf, Cond.selects RX2 yX2_placeOf yX2_placeOf, Cond.code yX2_placeOf cX2_placeOf 2 (some .int), Cond.fieldLink RX2 15 "AgedLog$Index" "places" "[I", Cond.methodLink RX6 89 yX3_isUsed, Cond.instanceMethod yX3_isUsed, Cond.selects RX3 yX3_isUsed yX3_isUsed, Cond.code yX3_isUsed cX3_isUsed 2 (some .boolean), Cond.fieldLink RX3 16 "AgedLog$Log" "states" "[I", Cond.methodLink RX6 92 yX4_setSum]
def wsX7_checkpoint_r5 : List Cond := [Cond.static yX4_setSum, Cond.code yX4_setSum cX4_setSum 3 none, Cond.methodLink RX4 20 yX4_sum, Cond.static yX4_sum, Cond.code yX4_sum cX4_sum 5 (some .int), Cond.constant RX4 19 (-1640531535), Cond.methodLink RX4 13 yJ6_rotateLeft_7cf53, Cond.static yJ6_rotateLeft_7cf53, Cond.initialized RJ6, Cond.code yJ6_rotateLeft_7cf53 cJ6_rotateLeft_7cf53 2 (some .int), Cond.methodLink RX4 24 yX4_setNumber, Cond.methodLink RX6 38 yX1_write, Cond.methodLink RX7 112 yX3_freeSpent, Cond.instanceMethod yX3_freeSpent, Cond.selects RX3 yX3_freeSpent yX3_freeSpent, Cond.code yX3_freeSpent cX3_freeSpent 2 none]
def wsX7_checkpoint : List Cond := .code yX7_checkpoint cX7_checkpoint 1 (some .int) :: ((wsX7_checkpoint_r1 ++ (wsX7_checkpoint_r2 ++ (wsX7_checkpoint_r3 ++ (wsX7_checkpoint_r4 ++ wsX7_checkpoint_r5)))) ++ wsX70 ++ wsX60 ++ wsX30 ++ wsX10 ++ wsX20)
def wsX7_clean_r1 : List Cond := [Cond.fieldLink RX7 67 "AgedLog" "down" "Z", Cond.fieldLink RX7 37 "AgedLog" "cleaner" "LAgedLog$Cleaner;", Cond.methodLink RX7 117 yX0_spend, Cond.instanceMethod yX0_spend, Cond.selects RX0 yX0_spend yX0_spend, Cond.initialized RX0, Cond.code yX0_spend cX0_spend 4 (some .int), Cond.fieldLink RX0 26 "AgedLog$Cleaner" "log" "LAgedLog$Log;", Cond.fieldLink RX0 22 "AgedLog$Cleaner" "agedCount" "I", Cond.fieldLink RX0 19 "AgedLog$Cleaner" "aged" "[I", Cond.fieldLink RX0 9 "AgedLog$Cleaner" "chosen" "[Z", Cond.methodLink RX0 34 yX0_choose, Cond.instanceMethod yX0_choose, Cond.selects RX0 yX0_choose yX0_choose, Cond.code yX0_choose cX0_choose 4 (some .int), Cond.methodLink RX0 57 yX0_forgetChosen, Cond.instanceMethod yX0_forgetChosen, Cond.selects RX0 yX0_forgetChosen yX0_forgetChosen, Cond.code yX0_forgetChosen cX0_forgetChosen 2 none, Cond.methodLink RX0 60 yX0_weighLive, Cond.instanceMethod yX0_weighLive, Cond.selects RX0 yX0_weighLive yX0_weighLive, Cond.code yX0_weighLive cX0_weighLive 2 none, Cond.fieldLink RX0 15 "AgedLog$Cleaner" "live" "[I"]
def wsX7_clean_r2 : List Cond := [Cond.fieldLink RX0 30 "AgedLog$Cleaner" "index" "LAgedLog$Index;", Cond.methodLink RX0 66 yJ7_fill_53178, Cond.static yJ7_fill_53178, Cond.initialized RJ7, Cond.code yJ7_fill_53178 cJ7_fill_53178 4 none, Cond.methodLink RX0 72 yX2_has, Cond.instanceMethod yX2_has, Cond.selects RX2 yX2_has yX2_has, Cond.initialized RX2, Cond.code yX2_has cX2_has 2 (some .boolean), Cond.fieldLink RX2 9 "AgedLog$Index" "segments" "[I", Cond.static yX7_isKey, Cond.initialized RX7, Cond.code yX7_isKey cX7_isKey 1 (some .boolean), Cond.static yX7_isOfLog, Cond.code yX7_isOfLog cX7_isOfLog 1 (some .boolean), Cond.methodLink RX0 78 yX2_segmentOf, Cond.instanceMethod yX2_segmentOf, Cond.selects RX2 yX2_segmentOf yX2_segmentOf, Cond.code yX2_segmentOf cX2_segmentOf 2 (some .int), Cond.methodLink RX0 81 yX3_lengthOf, Cond.instanceMethod yX3_lengthOf, Cond.selects RX3 yX3_lengthOf yX3_lengthOf, Cond.initialized RX3]
def wsX7_clean_r3 : List Cond := [Cond.code yX3_lengthOf cX3_lengthOf 2 (some .int), Cond.fieldLink RX3 10 "AgedLog$Log" "memory" "[B", Cond.fieldLink RX3 55 "AgedLog$Log" "index" "LAgedLog$Index;", Cond.methodLink RX3 75 yX2_addressOf, Cond.instanceMethod yX2_addressOf, Cond.selects RX2 yX2_addressOf yX2_addressOf, Cond.code yX2_addressOf cX2_addressOf 2 (some .int), Cond.fieldLink RX2 15 "AgedLog$Index" "places" "[I", Cond.methodLink RX3 69 yX4_number, Cond.static yX4_number, Cond.initialized RX4, Cond.code yX4_number cX4_number 5 (some .int), Cond.methodLink RX4 7 yX4_isWithin, Cond.static yX4_isWithin, Cond.code yX4_isWithin cX4_isWithin 3 (some .boolean), Cond.methodLink RX0 63 yX0_bestLeft, Cond.instanceMethod yX0_bestLeft, Cond.selects RX0 yX0_bestLeft yX0_bestLeft, Cond.code yX0_bestLeft cX0_bestLeft 4 (some .int), Cond.methodLink RX0 84 yX3_stateOf, Cond.instanceMethod yX3_stateOf, Cond.selects RX3 yX3_stateOf yX3_stateOf, Cond.code yX3_stateOf cX3_stateOf 2 (some .int), Cond.fieldLink RX3 40 "AgedLog$Log" "open" "I"]
def wsX7_clean_r4 : List Cond := [Cond.fieldLink RX3 16 "AgedLog$Log" "states" "[I", Cond.methodLink RX0 87 yX0_isWorthMore, Cond.instanceMethod yX0_isWorthMore, Cond.selects RX0 yX0_isWorthMore yX0_isWorthMore, Cond.code yX0_isWorthMore cX0_isWorthMore 7 (some .boolean), Cond.methodLink RX0 91 yX0_ageOf, Cond.instanceMethod yX0_ageOf, Cond.selects RX0 yX0_ageOf yX0_ageOf, Cond.code yX0_ageOf cX0_ageOf 2 (some .long), Cond.methodLink RX0 98 yX3_latestTimeIn, Cond.instanceMethod yX3_latestTimeIn, Cond.selects RX3 yX3_latestTimeIn yX3_latestTimeIn, Cond.code yX3_latestTimeIn cX3_latestTimeIn 2 (some .int), Cond.fieldLink RX3 20 "AgedLog$Log" "hasRecords" "[Z", Cond.fieldLink RX3 24 "AgedLog$Log" "latestTimes" "[I", Cond.methodLink RX0 38 yX0_gatherAged, Cond.instanceMethod yX0_gatherAged, Cond.selects RX0 yX0_gatherAged yX0_gatherAged, Cond.code yX0_gatherAged cX0_gatherAged 2 none, Cond.methodLink RX0 101 yX0_insertAged, Cond.instanceMethod yX0_insertAged, Cond.selects RX0 yX0_insertAged yX0_insertAged, Cond.code yX0_insertAged cX0_insertAged 3 none, Cond.methodLink RX0 104 yX0_isOlder]
def wsX7_clean_r5 : List Cond := [Cond.instanceMethod yX0_isOlder, Cond.selects RX0 yX0_isOlder yX0_isOlder, Cond.code yX0_isOlder cX0_isOlder 5 (some .boolean), Cond.methodLink RX0 107 yX3_timeOf, Cond.instanceMethod yX3_timeOf, Cond.selects RX3 yX3_timeOf yX3_timeOf, Cond.code yX3_timeOf cX3_timeOf 2 (some .int), Cond.methodLink RX0 110 yX3_sequenceOf, Cond.instanceMethod yX3_sequenceOf, Cond.selects RX3 yX3_sequenceOf yX3_sequenceOf, Cond.code yX3_sequenceOf cX3_sequenceOf 2 (some .int), Cond.methodLink RX0 41 yX0_countWanted, Cond.instanceMethod yX0_countWanted, Cond.selects RX0 yX0_countWanted yX0_countWanted, Cond.code yX0_countWanted cX0_countWanted 5 (some .int), Cond.methodLink RX0 45 yX3_countFree, Cond.instanceMethod yX3_countFree, Cond.selects RX3 yX3_countFree yX3_countFree, Cond.code yX3_countFree cX3_countFree 3 (some .int), Cond.methodLink RX0 50 yX0_appendAgain, Cond.instanceMethod yX0_appendAgain, Cond.selects RX0 yX0_appendAgain yX0_appendAgain, Cond.code yX0_appendAgain cX0_appendAgain 3 none, Cond.methodLink RX0 119 yX2_addressOf]
def wsX7_clean_r6 : List Cond := [Cond.methodLink RX0 126 yX3_append, Cond.instanceMethod yX3_append, Cond.selects RX3 yX3_append yX3_append, Cond.code yX3_append cX3_append 9 (some .int), Cond.fieldLink RX3 49 "AgedLog$Log" "nextSequence" "I", Cond.fieldLink RX3 43 "AgedLog$Log" "place" "I", Cond.methodLink RX3 90 yX3_fits, Cond.instanceMethod yX3_fits, Cond.selects RX3 yX3_fits yX3_fits, Cond.code yX3_fits cX3_fits 2 (some .boolean), Cond.methodLink RX3 97 yX3_openNext, Cond.instanceMethod yX3_openNext, Cond.selects RX3 yX3_openNext yX3_openNext, Cond.code yX3_openNext cX3_openNext 3 none, Cond.fieldLink RX3 46 "AgedLog$Log" "order" "I", Cond.methodLink RX3 124 yX3_leastFree, Cond.instanceMethod yX3_leastFree, Cond.selects RX3 yX3_leastFree yX3_leastFree, Cond.code yX3_leastFree cX3_leastFree 2 (some .int), Cond.methodLink RX3 127 yX3_use, Cond.instanceMethod yX3_use, Cond.selects RX3 yX3_use yX3_use, Cond.code yX3_use cX3_use 2 none, Cond.methodLink RX3 130 yX3_forgetTimes]
def wsX7_clean_r7 : List Cond := [Cond.instanceMethod yX3_forgetTimes, Cond.selects RX3 yX3_forgetTimes yX3_forgetTimes, Cond.code yX3_forgetTimes cX3_forgetTimes 2 none, Cond.methodLink RX3 133 yX4_clear, Cond.static yX4_clear, Cond.code yX4_clear cX4_clear 4 none, Cond.methodLink RX3 100 yX4_setNumber, Cond.static yX4_setNumber, Cond.code yX4_setNumber cX4_setNumber 6 none, Cond.methodLink RX3 108 yX4_setSum, Cond.static yX4_setSum, Cond.code yX4_setSum cX4_setSum 3 none, Cond.methodLink RX4 20 yX4_sum, Cond.static yX4_sum, Cond.code yX4_sum cX4_sum 5 (some .int), Cond.constant RX4 19 (-1640531535), Cond.methodLink RX4 13 yJ6_rotateLeft_7cf53, Cond.static yJ6_rotateLeft_7cf53, Cond.initialized RJ6, Cond.code yJ6_rotateLeft_7cf53 cJ6_rotateLeft_7cf53 2 (some .int), Cond.methodLink RX4 24 yX4_setNumber, Cond.methodLink RX3 120 yX3_noteFresh, Cond.instanceMethod yX3_noteFresh, Cond.selects RX3 yX3_noteFresh yX3_noteFresh]
def wsX7_clean_r8 : List Cond := [Cond.code yX3_noteFresh cX3_noteFresh 3 none, Cond.fieldLink RX3 36 "AgedLog$Log" "freshCount" "I", Cond.fieldLink RX3 27 "AgedLog$Log" "fresh" "[I", Cond.fieldLink RX3 30 "AgedLog$Log" "freshFrom" "[I", Cond.fieldLink RX3 33 "AgedLog$Log" "freshTo" "[I", Cond.methodLink RX3 104 yX4_copy, Cond.static yX4_copy, Cond.code yX4_copy cX4_copy 5 none, Cond.methodLink RX4 28 arraycopyName, Cond.native arraycopyName, Cond.static arraycopyName, Cond.initialized "java/lang/System", Cond.methodLink RX3 112 yX2_follow, Cond.instanceMethod yX2_follow, Cond.selects RX2 yX2_follow yX2_follow, Cond.code yX2_follow cX2_follow 5 none, Cond.fieldLink RX2 18 "AgedLog$Index" "count" "I", Cond.methodLink RX3 116 yX3_noteTime, Cond.instanceMethod yX3_noteTime, Cond.selects RX3 yX3_noteTime yX3_noteTime, Cond.code yX3_noteTime cX3_noteTime 3 none, Cond.methodLink RX0 54 yX3_spend, Cond.instanceMethod yX3_spend, Cond.selects RX3 yX3_spend yX3_spend]
def wsX7_clean_r9 : List Cond := [Cond.code yX3_spend cX3_spend 2 none]
def wsX7_clean : List Cond := .code yX7_clean cX7_clean 2 (some .int) :: ((wsX7_clean_r1 ++ (wsX7_clean_r2 ++ (wsX7_clean_r3 ++ (wsX7_clean_r4 ++ (wsX7_clean_r5 ++ (wsX7_clean_r6 ++ (wsX7_clean_r7 ++ (wsX7_clean_r8 ++ wsX7_clean_r9)))))))) ++ wsX70 ++ wsX00 ++ wsX20 ++ wsX30)
def wsX7_tick : List Cond := .code yX7_tick cX7_tick 2 (some .int) :: ([.fieldLink RX7 67 "AgedLog" "down" "Z", .constant RX7 120 (100000), .fieldLink RX7 28 "AgedLog" "log" "LAgedLog$Log;"] ++ wsX70 ++ wsX30)
def wsX7_cut : List Cond := .code yX7_cut cX7_cut 3 (some .int) :: ([.fieldLink RX7 67 "AgedLog" "down" "Z", .fieldLink RX7 10 "AgedLog" "drive" "LAgedLog$Disk;", .methodLink RX7 121 yX1_cutAt, .instanceMethod yX1_cutAt, .selects RX1 yX1_cutAt yX1_cutAt, .initialized RX1, .code yX1_cutAt cX1_cutAt 3 none, .fieldLink RX1 24 "AgedLog$Disk" "sectorsToCut" "I", .fieldLink RX1 27 "AgedLog$Disk" "octetsToCut" "I"] ++ wsX70 ++ wsX10)
def wsX7_start_r1 : List Cond := [Cond.fieldLink RX7 10 "AgedLog" "drive" "LAgedLog$Disk;", Cond.fieldLink RX7 67 "AgedLog" "down" "Z", Cond.fieldLink RX7 55 "AgedLog" "recovery" "LAgedLog$Recovery;", Cond.methodLink RX7 121 yX1_cutAt, Cond.instanceMethod yX1_cutAt, Cond.selects RX1 yX1_cutAt yX1_cutAt, Cond.initialized RX1, Cond.code yX1_cutAt cX1_cutAt 3 none, Cond.fieldLink RX1 24 "AgedLog$Disk" "sectorsToCut" "I", Cond.fieldLink RX1 27 "AgedLog$Disk" "octetsToCut" "I", Cond.methodLink RX7 125 yX5_takeCheckpoint, Cond.instanceMethod yX5_takeCheckpoint, Cond.selects RX5 yX5_takeCheckpoint yX5_takeCheckpoint, Cond.initialized RX5, Cond.code yX5_takeCheckpoint cX5_takeCheckpoint 2 none, Cond.fieldLink RX5 15 "AgedLog$Recovery" "log" "LAgedLog$Log;", Cond.fieldLink RX5 23 "AgedLog$Recovery" "regions" "LAgedLog$Regions;", Cond.fieldLink RX5 19 "AgedLog$Recovery" "index" "LAgedLog$Index;", Cond.methodLink RX5 27 yX3_setAsAtFirst, Cond.instanceMethod yX3_setAsAtFirst, Cond.selects RX3 yX3_setAsAtFirst yX3_setAsAtFirst, Cond.initialized RX3, Cond.code yX3_setAsAtFirst cX3_setAsAtFirst 1 none, Cond.fieldLink RX3 16 "AgedLog$Log" "states" "[I"]
def wsX7_start_r2 : List Cond := [Cond.fieldLink RX3 36 "AgedLog$Log" "freshCount" "I", Cond.fieldLink RX3 40 "AgedLog$Log" "open" "I", Cond.fieldLink RX3 43 "AgedLog$Log" "place" "I", Cond.fieldLink RX3 46 "AgedLog$Log" "order" "I", Cond.fieldLink RX3 49 "AgedLog$Log" "nextSequence" "I", Cond.fieldLink RX3 52 "AgedLog$Log" "clock" "I", Cond.methodLink RX3 59 yJ7_fill_53178, Cond.static yJ7_fill_53178, Cond.initialized RJ7, Cond.code yJ7_fill_53178 cJ7_fill_53178 4 none, Cond.methodLink RX5 32 yX6_setAsAtFirst, Cond.instanceMethod yX6_setAsAtFirst, Cond.selects RX6 yX6_setAsAtFirst yX6_setAsAtFirst, Cond.initialized RX6, Cond.code yX6_setAsAtFirst cX6_setAsAtFirst 1 none, Cond.fieldLink RX6 15 "AgedLog$Regions" "number" "I", Cond.fieldLink RX6 19 "AgedLog$Regions" "turn" "I", Cond.methodLink RX5 35 yX2_clear, Cond.instanceMethod yX2_clear, Cond.selects RX2 yX2_clear yX2_clear, Cond.initialized RX2, Cond.code yX2_clear cX2_clear 1 none, Cond.fieldLink RX2 9 "AgedLog$Index" "segments" "[I", Cond.fieldLink RX2 15 "AgedLog$Index" "places" "[I"]
def wsX7_start_r3 : List Cond := [Cond.fieldLink RX2 18 "AgedLog$Index" "count" "I", Cond.methodLink RX2 29 yJ7_fill_53178, Cond.methodLink RX5 40 yX6_newest, Cond.instanceMethod yX6_newest, Cond.selects RX6 yX6_newest yX6_newest, Cond.code yX6_newest cX6_newest 3 (some .int), Cond.methodLink RX6 96 yX6_isRight, Cond.instanceMethod yX6_isRight, Cond.selects RX6 yX6_isRight yX6_isRight, Cond.code yX6_isRight cX6_isRight 4 (some .boolean), Cond.fieldLink RX6 22 "AgedLog$Regions" "drive" "LAgedLog$Disk;", Cond.methodLink RX6 99 yX6_numberAt, Cond.instanceMethod yX6_numberAt, Cond.selects RX6 yX6_numberAt yX6_numberAt, Cond.code yX6_numberAt cX6_numberAt 4 (some .int), Cond.methodLink RX6 104 yX4_number, Cond.static yX4_number, Cond.initialized RX4, Cond.code yX4_number cX4_number 5 (some .int), Cond.methodLink RX4 7 yX4_isWithin, Cond.static yX4_isWithin, Cond.code yX4_isWithin cX4_isWithin 3 (some .boolean), Cond.methodLink RX6 107 yX1_hasSum, Cond.instanceMethod yX1_hasSum]
def wsX7_start_r4 : List Cond := [Cond.selects RX1 yX1_hasSum yX1_hasSum, Cond.code yX1_hasSum cX1_hasSum 3 (some .boolean), Cond.fieldLink RX1 10 "AgedLog$Disk" "row" "[B", Cond.methodLink RX1 40 yX4_isWithin, Cond.methodLink RX1 30 yX4_number, Cond.methodLink RX1 44 yX4_sum, Cond.static yX4_sum, Cond.code yX4_sum cX4_sum 5 (some .int), Cond.constant RX4 19 (-1640531535), Cond.methodLink RX4 13 yJ6_rotateLeft_7cf53, Cond.static yJ6_rotateLeft_7cf53, Cond.initialized RJ6, Cond.code yJ6_rotateLeft_7cf53 cJ6_rotateLeft_7cf53 2 (some .int), Cond.methodLink RX1 47 yX1_isTorn, Cond.instanceMethod yX1_isTorn, Cond.selects RX1 yX1_isTorn yX1_isTorn, Cond.code yX1_isTorn cX1_isTorn 8 (some .boolean), Cond.fieldLink RX1 16 "AgedLog$Disk" "tornTail" "[I", Cond.methodLink RX1 51 Lib.Math.min.name, Cond.static Lib.Math.min.name, Cond.initialized "java/lang/Math", Cond.code Lib.Math.min.name Lib.Math.min.code 2 (some .int), Cond.methodLink RX1 57 Lib.Math.max.name, Cond.static Lib.Math.max.name]
def wsX7_start_r5 : List Cond := [Cond.code Lib.Math.max.name Lib.Math.max.code 2 (some .int), Cond.methodLink RX6 111 yX6_areNumbersRight, Cond.instanceMethod yX6_areNumbersRight, Cond.selects RX6 yX6_areNumbersRight yX6_areNumbersRight, Cond.code yX6_areNumbersRight cX6_areNumbersRight 2 (some .boolean), Cond.methodLink RX6 114 yX6_isOpenRight, Cond.instanceMethod yX6_isOpenRight, Cond.selects RX6 yX6_isOpenRight yX6_isOpenRight, Cond.code yX6_isOpenRight cX6_isOpenRight 4 (some .boolean), Cond.static yX7_isOfLog, Cond.initialized RX7, Cond.code yX7_isOfLog cX7_isOfLog 1 (some .boolean), Cond.methodLink RX6 117 yX6_areKeysRight, Cond.instanceMethod yX6_areKeysRight, Cond.selects RX6 yX6_areKeysRight yX6_areKeysRight, Cond.code yX6_areKeysRight cX6_areKeysRight 8 (some .boolean), Cond.static yX7_isKey, Cond.code yX7_isKey cX7_isKey 1 (some .boolean), Cond.methodLink RX6 120 yX6_areFlagsRight, Cond.instanceMethod yX6_areFlagsRight, Cond.selects RX6 yX6_areFlagsRight yX6_areFlagsRight, Cond.code yX6_areFlagsRight cX6_areFlagsRight 4 (some .boolean), Cond.methodLink RX5 44 yX6_load, Cond.instanceMethod yX6_load]
def wsX7_start_r6 : List Cond := [Cond.selects RX6 yX6_load yX6_load, Cond.code yX6_load cX6_load 4 none, Cond.fieldLink RX6 26 "AgedLog$Regions" "log" "LAgedLog$Log;", Cond.methodLink RX6 129 yX6_countOf, Cond.instanceMethod yX6_countOf, Cond.selects RX6 yX6_countOf yX6_countOf, Cond.code yX6_countOf cX6_countOf 2 (some .int), Cond.methodLink RX6 136 Lib.Math.min.name, Cond.methodLink RX6 132 yX3_use, Cond.instanceMethod yX3_use, Cond.selects RX3 yX3_use yX3_use, Cond.code yX3_use cX3_use 2 none, Cond.methodLink RX5 48 yX5_loadIndex, Cond.instanceMethod yX5_loadIndex, Cond.selects RX5 yX5_loadIndex yX5_loadIndex, Cond.code yX5_loadIndex cX5_loadIndex 7 none, Cond.methodLink RX5 51 yX6_countOf, Cond.methodLink RX5 55 yX6_keyOf, Cond.instanceMethod yX6_keyOf, Cond.selects RX6 yX6_keyOf yX6_keyOf, Cond.code yX6_keyOf cX6_keyOf 3 (some .int), Cond.methodLink RX5 59 yX6_segmentOf, Cond.instanceMethod yX6_segmentOf, Cond.selects RX6 yX6_segmentOf yX6_segmentOf]
def wsX7_start_r7 : List Cond := [Cond.code yX6_segmentOf cX6_segmentOf 3 (some .int), Cond.methodLink RX5 62 yX6_placeOf, Cond.instanceMethod yX6_placeOf, Cond.selects RX6 yX6_placeOf yX6_placeOf, Cond.code yX6_placeOf cX6_placeOf 3 (some .int), Cond.methodLink RX5 65 yX5_isPutOf, Cond.instanceMethod yX5_isPutOf, Cond.selects RX5 yX5_isPutOf yX5_isPutOf, Cond.code yX5_isPutOf cX5_isPutOf 5 (some .boolean), Cond.methodLink RX5 73 yX5_rightLength, Cond.instanceMethod yX5_rightLength, Cond.selects RX5 yX5_rightLength yX5_rightLength, Cond.code yX5_rightLength cX5_rightLength 7 (some .int), Cond.fieldLink RX5 9 "AgedLog$Recovery" "drive" "LAgedLog$Disk;", Cond.methodLink RX5 83 yX5_kindAt, Cond.instanceMethod yX5_kindAt, Cond.selects RX5 yX5_kindAt yX5_kindAt, Cond.code yX5_kindAt cX5_kindAt 3 (some .int), Cond.methodLink RX5 122 yX4_number, Cond.methodLink RX5 145 yX5_valueLengthAt, Cond.instanceMethod yX5_valueLengthAt, Cond.selects RX5 yX5_valueLengthAt yX5_valueLengthAt, Cond.code yX5_valueLengthAt cX5_valueLengthAt 3 (some .int), Cond.methodLink RX5 86 yX5_keyAt]
def wsX7_start_r8 : List Cond := [Cond.instanceMethod yX5_keyAt, Cond.selects RX5 yX5_keyAt yX5_keyAt, Cond.code yX5_keyAt cX5_keyAt 3 (some .int), Cond.methodLink RX5 131 yX1_hasSum, Cond.methodLink RX5 76 yX3_isUsed, Cond.instanceMethod yX3_isUsed, Cond.selects RX3 yX3_isUsed yX3_isUsed, Cond.code yX3_isUsed cX3_isUsed 2 (some .boolean), Cond.methodLink RX5 80 yX5_endOf, Cond.instanceMethod yX5_endOf, Cond.selects RX5 yX5_endOf yX5_endOf, Cond.code yX5_endOf cX5_endOf 2 (some .int), Cond.methodLink RX5 69 yX2_follow, Cond.instanceMethod yX2_follow, Cond.selects RX2 yX2_follow yX2_follow, Cond.code yX2_follow cX2_follow 5 none, Cond.methodLink RX7 128 yX5_goThrough, Cond.instanceMethod yX5_goThrough, Cond.selects RX5 yX5_goThrough yX5_goThrough, Cond.code yX5_goThrough cX5_goThrough 2 (some .int), Cond.methodLink RX5 96 yX5_findNext, Cond.instanceMethod yX5_findNext, Cond.selects RX5 yX5_findNext yX5_findNext, Cond.code yX5_findNext cX5_findNext 2 (some .boolean)]
def wsX7_start_r9 : List Cond := [Cond.methodLink RX5 103 yX5_isNext, Cond.instanceMethod yX5_isNext, Cond.selects RX5 yX5_isNext yX5_isNext, Cond.code yX5_isNext cX5_isNext 4 (some .boolean), Cond.methodLink RX5 107 yX5_hasNextHead, Cond.instanceMethod yX5_hasNextHead, Cond.selects RX5 yX5_hasNextHead yX5_hasNextHead, Cond.code yX5_hasNextHead cX5_hasNextHead 3 (some .boolean), Cond.methodLink RX5 110 yX3_use, Cond.methodLink RX5 100 yX5_followRecord, Cond.instanceMethod yX5_followRecord, Cond.selects RX5 yX5_followRecord yX5_followRecord, Cond.code yX5_followRecord cX5_followRecord 3 none, Cond.methodLink RX5 140 Lib.Math.max.name, Cond.methodLink RX5 137 yX5_timeAt, Cond.instanceMethod yX5_timeAt, Cond.selects RX5 yX5_timeAt yX5_timeAt, Cond.code yX5_timeAt cX5_timeAt 3 (some .int), Cond.methodLink RX7 132 yX5_fillMemory, Cond.instanceMethod yX5_fillMemory, Cond.selects RX5 yX5_fillMemory yX5_fillMemory, Cond.code yX5_fillMemory cX5_fillMemory 2 none, Cond.methodLink RX5 148 yX3_loadMemory, Cond.instanceMethod yX3_loadMemory]
def wsX7_start_r10 : List Cond := [Cond.selects RX3 yX3_loadMemory yX3_loadMemory, Cond.code yX3_loadMemory cX3_loadMemory 4 none, Cond.fieldLink RX3 10 "AgedLog$Log" "memory" "[B", Cond.methodLink RX3 156 yX3_isUsed, Cond.methodLink RX3 104 yX4_copy, Cond.static yX4_copy, Cond.code yX4_copy cX4_copy 5 none, Cond.methodLink RX4 28 arraycopyName, Cond.native arraycopyName, Cond.static arraycopyName, Cond.initialized "java/lang/System", Cond.methodLink RX3 133 yX4_clear, Cond.static yX4_clear, Cond.code yX4_clear cX4_clear 4 none, Cond.methodLink RX5 152 yX3_forgetTimes, Cond.instanceMethod yX3_forgetTimes, Cond.selects RX3 yX3_forgetTimes yX3_forgetTimes, Cond.code yX3_forgetTimes cX3_forgetTimes 2 none, Cond.fieldLink RX3 20 "AgedLog$Log" "hasRecords" "[Z", Cond.methodLink RX5 155 yX5_readTimesOf, Cond.instanceMethod yX5_readTimesOf, Cond.selects RX5 yX5_readTimesOf yX5_readTimesOf, Cond.code yX5_readTimesOf cX5_readTimesOf 5 none, Cond.methodLink RX5 158 yX3_noteTime]
def wsX7_start_r11 : List Cond := [Cond.instanceMethod yX3_noteTime, Cond.selects RX3 yX3_noteTime yX3_noteTime, Cond.code yX3_noteTime cX3_noteTime 3 none, Cond.fieldLink RX3 24 "AgedLog$Log" "latestTimes" "[I"]
def wsX7_start : List Cond := .code yX7_start cX7_start 2 (some .int) :: ((wsX7_start_r1 ++ (wsX7_start_r2 ++ (wsX7_start_r3 ++ (wsX7_start_r4 ++ (wsX7_start_r5 ++ (wsX7_start_r6 ++ (wsX7_start_r7 ++ (wsX7_start_r8 ++ (wsX7_start_r9 ++ (wsX7_start_r10 ++ wsX7_start_r11)))))))))) ++ wsX70 ++ wsX10 ++ wsX50 ++ wsX30 ++ wsX60 ++ wsX20)
def wsX7_isOctet : List Cond := .code yX7_isOctet cX7_isOctet 2 (some .boolean) :: ([])
def wsX7_disk : List Cond := .code yX7_disk cX7_disk 3 (some .int) :: ([.fieldLink RX7 10 "AgedLog" "drive" "LAgedLog$Disk;", .methodLink RX7 135 yX7_isOctet, .static yX7_isOctet, .initialized RX7, .code yX7_isOctet cX7_isOctet 2 (some .boolean), .methodLink RX7 98 yX4_number, .static yX4_number, .initialized RX4, .code yX4_number cX4_number 5 (some .int), .methodLink RX4 7 yX4_isWithin, .static yX4_isWithin, .code yX4_isWithin cX4_isWithin 3 (some .boolean)] ++ wsX70 ++ wsX10)
def wsX7_poke : List Cond := .code yX7_poke cX7_poke 4 (some .int) :: ([.fieldLink RX7 10 "AgedLog" "drive" "LAgedLog$Disk;", .methodLink RX7 135 yX7_isOctet, .static yX7_isOctet, .initialized RX7, .code yX7_isOctet cX7_isOctet 2 (some .boolean), .methodLink RX7 142 yX1_flip, .instanceMethod yX1_flip, .selects RX1 yX1_flip yX1_flip, .initialized RX1, .code yX1_flip cX1_flip 3 (some .int), .fieldLink RX1 10 "AgedLog$Disk" "row" "[B", .methodLink RX1 30 yX4_number, .static yX4_number, .initialized RX4, .code yX4_number cX4_number 5 (some .int), .methodLink RX4 7 yX4_isWithin, .static yX4_isWithin, .code yX4_isWithin cX4_isWithin 3 (some .boolean), .methodLink RX1 36 yX4_setNumber, .static yX4_setNumber, .code yX4_setNumber cX4_setNumber 6 none] ++ wsX70 ++ wsX10)
def wsX7_segment_r1 : List Cond := [Cond.fieldLink RX7 67 "AgedLog" "down" "Z", Cond.fieldLink RX7 28 "AgedLog" "log" "LAgedLog$Log;", Cond.methodLink RX7 146 yX7_isOfLog, Cond.static yX7_isOfLog, Cond.initialized RX7, Cond.code yX7_isOfLog cX7_isOfLog 1 (some .boolean), Cond.methodLink RX7 149 yX3_stateOf, Cond.instanceMethod yX3_stateOf, Cond.selects RX3 yX3_stateOf yX3_stateOf, Cond.initialized RX3, Cond.code yX3_stateOf cX3_stateOf 2 (some .int), Cond.fieldLink RX3 40 "AgedLog$Log" "open" "I", Cond.fieldLink RX3 16 "AgedLog$Log" "states" "[I", Cond.methodLink RX7 152 yX3_isUsed, Cond.instanceMethod yX3_isUsed, Cond.selects RX3 yX3_isUsed yX3_isUsed, Cond.code yX3_isUsed cX3_isUsed 2 (some .boolean), Cond.methodLink RX7 155 yX3_liveIn, Cond.instanceMethod yX3_liveIn, Cond.selects RX3 yX3_liveIn yX3_liveIn, Cond.code yX3_liveIn cX3_liveIn 4 (some .int), Cond.fieldLink RX3 55 "AgedLog$Log" "index" "LAgedLog$Index;", Cond.methodLink RX3 81 yX2_has, Cond.instanceMethod yX2_has]
def wsX7_segment_r2 : List Cond := [Cond.selects RX2 yX2_has yX2_has, Cond.initialized RX2, Cond.code yX2_has cX2_has 2 (some .boolean), Cond.fieldLink RX2 9 "AgedLog$Index" "segments" "[I", Cond.static yX7_isKey, Cond.code yX7_isKey cX7_isKey 1 (some .boolean), Cond.methodLink RX3 84 yX2_segmentOf, Cond.instanceMethod yX2_segmentOf, Cond.selects RX2 yX2_segmentOf yX2_segmentOf, Cond.code yX2_segmentOf cX2_segmentOf 2 (some .int), Cond.methodLink RX3 87 yX3_lengthOf, Cond.instanceMethod yX3_lengthOf, Cond.selects RX3 yX3_lengthOf yX3_lengthOf, Cond.code yX3_lengthOf cX3_lengthOf 2 (some .int), Cond.fieldLink RX3 10 "AgedLog$Log" "memory" "[B", Cond.methodLink RX3 75 yX2_addressOf, Cond.instanceMethod yX2_addressOf, Cond.selects RX2 yX2_addressOf yX2_addressOf, Cond.code yX2_addressOf cX2_addressOf 2 (some .int), Cond.fieldLink RX2 15 "AgedLog$Index" "places" "[I", Cond.methodLink RX3 69 yX4_number, Cond.static yX4_number, Cond.initialized RX4, Cond.code yX4_number cX4_number 5 (some .int)]
def wsX7_segment_r3 : List Cond := [Cond.methodLink RX4 7 yX4_isWithin, Cond.static yX4_isWithin, Cond.code yX4_isWithin cX4_isWithin 3 (some .boolean), Cond.methodLink RX7 158 yX3_latestTimeIn, Cond.instanceMethod yX3_latestTimeIn, Cond.selects RX3 yX3_latestTimeIn yX3_latestTimeIn, Cond.code yX3_latestTimeIn cX3_latestTimeIn 2 (some .int), Cond.fieldLink RX3 20 "AgedLog$Log" "hasRecords" "[Z", Cond.fieldLink RX3 24 "AgedLog$Log" "latestTimes" "[I", Cond.methodLink RX7 161 yX3_orderOf, Cond.instanceMethod yX3_orderOf, Cond.selects RX3 yX3_orderOf yX3_orderOf, Cond.code yX3_orderOf cX3_orderOf 2 (some .int)]
def wsX7_segment : List Cond := .code yX7_segment cX7_segment 3 (some .int) :: ((wsX7_segment_r1 ++ (wsX7_segment_r2 ++ wsX7_segment_r3)) ++ wsX70 ++ wsX30 ++ wsX20)
def wsX7_where_r1 : List Cond := [Cond.fieldLink RX7 67 "AgedLog" "down" "Z", Cond.fieldLink RX7 19 "AgedLog" "index" "LAgedLog$Index;", Cond.fieldLink RX7 28 "AgedLog" "log" "LAgedLog$Log;", Cond.methodLink RX7 85 yX2_has, Cond.instanceMethod yX2_has, Cond.selects RX2 yX2_has yX2_has, Cond.initialized RX2, Cond.code yX2_has cX2_has 2 (some .boolean), Cond.fieldLink RX2 9 "AgedLog$Index" "segments" "[I", Cond.static yX7_isKey, Cond.initialized RX7, Cond.code yX7_isKey cX7_isKey 1 (some .boolean), Cond.static yX7_isOfLog, Cond.code yX7_isOfLog cX7_isOfLog 1 (some .boolean), Cond.methodLink RX7 164 yX2_segmentOf, Cond.instanceMethod yX2_segmentOf, Cond.selects RX2 yX2_segmentOf yX2_segmentOf, Cond.code yX2_segmentOf cX2_segmentOf 2 (some .int), Cond.methodLink RX7 167 yX2_placeOf, Cond.instanceMethod yX2_placeOf, Cond.selects RX2 yX2_placeOf yX2_placeOf, Cond.code yX2_placeOf cX2_placeOf 2 (some .int), Cond.fieldLink RX2 15 "AgedLog$Index" "places" "[I", Cond.methodLink RX7 170 yX3_sequenceOf]
def wsX7_where_r2 : List Cond := [Cond.instanceMethod yX3_sequenceOf, Cond.selects RX3 yX3_sequenceOf yX3_sequenceOf, Cond.initialized RX3, Cond.code yX3_sequenceOf cX3_sequenceOf 2 (some .int), Cond.fieldLink RX3 10 "AgedLog$Log" "memory" "[B", Cond.fieldLink RX3 55 "AgedLog$Log" "index" "LAgedLog$Index;", Cond.methodLink RX3 75 yX2_addressOf, Cond.instanceMethod yX2_addressOf, Cond.selects RX2 yX2_addressOf yX2_addressOf, Cond.code yX2_addressOf cX2_addressOf 2 (some .int), Cond.methodLink RX3 69 yX4_number, Cond.static yX4_number, Cond.initialized RX4, Cond.code yX4_number cX4_number 5 (some .int), Cond.methodLink RX4 7 yX4_isWithin, Cond.static yX4_isWithin, Cond.code yX4_isWithin cX4_isWithin 3 (some .boolean), Cond.methodLink RX7 173 yX3_timeOf, Cond.instanceMethod yX3_timeOf, Cond.selects RX3 yX3_timeOf yX3_timeOf, Cond.code yX3_timeOf cX3_timeOf 2 (some .int)]
def wsX7_where : List Cond := .code yX7_where cX7_where 3 (some .int) :: ((wsX7_where_r1 ++ wsX7_where_r2) ++ wsX70 ++ wsX20 ++ wsX30)
def wsX7_toldWhileUp : List Cond := .code yX7_toldWhileUp cX7_toldWhileUp 2 (some .int) :: ([.fieldLink RX7 28 "AgedLog" "log" "LAgedLog$Log;", .fieldLink RX7 19 "AgedLog" "index" "LAgedLog$Index;", .fieldLink RX7 46 "AgedLog" "regions" "LAgedLog$Regions;", .methodLink RX7 191 yX3_countFree, .instanceMethod yX3_countFree, .selects RX3 yX3_countFree yX3_countFree, .initialized RX3, .code yX3_countFree cX3_countFree 3 (some .int), .fieldLink RX3 16 "AgedLog$Log" "states" "[I", .methodLink RX7 197 yX3_countFreshOctets, .instanceMethod yX3_countFreshOctets, .selects RX3 yX3_countFreshOctets yX3_countFreshOctets, .code yX3_countFreshOctets cX3_countFreshOctets 3 (some .int), .fieldLink RX3 36 "AgedLog$Log" "freshCount" "I", .fieldLink RX3 33 "AgedLog$Log" "freshTo" "[I", .fieldLink RX3 27 "AgedLog$Log" "fresh" "[I", .fieldLink RX3 30 "AgedLog$Log" "freshFrom" "[I"] ++ wsX70 ++ wsX30 ++ wsX20 ++ wsX60)
def wsX7_told : List Cond := .code yX7_told cX7_told 2 (some .int) :: ([.fieldLink RX7 67 "AgedLog" "down" "Z", .fieldLink RX7 10 "AgedLog" "drive" "LAgedLog$Disk;", .methodLink RX7 179 yX7_toldWhileUp, .instanceMethod yX7_toldWhileUp, .selects RX7 yX7_toldWhileUp yX7_toldWhileUp, .initialized RX7, .code yX7_toldWhileUp cX7_toldWhileUp 2 (some .int), .fieldLink RX7 28 "AgedLog" "log" "LAgedLog$Log;", .fieldLink RX7 19 "AgedLog" "index" "LAgedLog$Index;", .fieldLink RX7 46 "AgedLog" "regions" "LAgedLog$Regions;", .methodLink RX7 191 yX3_countFree, .instanceMethod yX3_countFree, .selects RX3 yX3_countFree yX3_countFree, .initialized RX3, .code yX3_countFree cX3_countFree 3 (some .int), .fieldLink RX3 16 "AgedLog$Log" "states" "[I", .methodLink RX7 197 yX3_countFreshOctets, .instanceMethod yX3_countFreshOctets, .selects RX3 yX3_countFreshOctets yX3_countFreshOctets, .code yX3_countFreshOctets cX3_countFreshOctets 3 (some .int), .fieldLink RX3 36 "AgedLog$Log" "freshCount" "I", .fieldLink RX3 33 "AgedLog$Log" "freshTo" "[I", .fieldLink RX3 27 "AgedLog$Log" "fresh" "[I", .fieldLink RX3 30 "AgedLog$Log" "freshFrom" "[I"] ++ wsX70 ++ wsX10 ++ wsX30 ++ wsX20 ++ wsX60)
def wsX8_init : List Cond := .code yX8_init cX8_init 1 none :: ([.methodLink RX8 1 objectInit, .instanceMethod objectInit, .code objectInit ⟨#[0xb1]⟩ 1 none, .constant RX8 7 (65536), .arrayClass .byte, .fieldLink RX8 8 "AgedLogModel" "disk" "[B", .fieldLink RX8 14 "AgedLogModel" "memory" "[B", .arrayClass .boolean, .fieldLink RX8 17 "AgedLogModel" "torn" "[Z", .arrayClass .int, .fieldLink RX8 21 "AgedLogModel" "state" "[I", .fieldLink RX8 25 "AgedLogModel" "sequence" "I", .fieldLink RX8 29 "AgedLogModel" "kSegment" "[I", .fieldLink RX8 32 "AgedLogModel" "kAt" "[I", .fieldLink RX8 35 "AgedLogModel" "dSegment" "[I", .fieldLink RX8 38 "AgedLogModel" "dFrom" "[I", .fieldLink RX8 41 "AgedLogModel" "dTo" "[I", .fieldLink RX8 44 "AgedLogModel" "hand" "[B", .fieldLink RX8 47 "AgedLogModel" "made" "[B", .fieldLink RX8 50 "AgedLogModel" "young" "[I", .fieldLink RX8 53 "AgedLogModel" "value" "[B", .fieldLink RX8 56 "AgedLogModel" "taken" "[Z", .fieldLink RX8 59 "AgedLogModel" "sorted" "[I", .fieldLink RX8 62 "AgedLogModel" "turn" "I"] ++ wsX80)
def wsX8_in : List Cond := .code yX8_in cX8_in 3 (some .boolean) :: ([])
def wsX8_sum : List Cond := .code yX8_sum cX8_sum 6 (some .int) :: ([.constant RX8 68 (-1640531535)])
def wsX8_number : List Cond := .code yX8_number cX8_number 5 (some .int) :: ([])
def wsX8_isTorn : List Cond := .code yX8_isTorn cX8_isTorn 5 (some .boolean) :: ([.fieldLink RX8 17 "AgedLogModel" "torn" "[Z"] ++ wsX80)
def wsX8_octets : List Cond := .code yX8_octets cX8_octets 4 none :: ([.fieldLink RX8 47 "AgedLogModel" "made" "[B", .fieldLink RX8 69 "AgedLogModel" "size" "I"] ++ wsX80)
def wsX8_at : List Cond := .code yX8_at cX8_at 2 (some .int) :: ([])
def wsX8_right : List Cond := .code yX8_right cX8_right 8 (some .int) :: ([.fieldLink RX8 14 "AgedLogModel" "memory" "[B", .methodLink RX8 72 yX8_at, .static yX8_at, .initialized RX8, .code yX8_at cX8_at 2 (some .int), .methodLink RX8 76 yX8_number, .static yX8_number, .code yX8_number cX8_number 5 (some .int), .methodLink RX8 80 yX8_isTorn, .instanceMethod yX8_isTorn, .selects RX8 yX8_isTorn yX8_isTorn, .code yX8_isTorn cX8_isTorn 5 (some .boolean), .fieldLink RX8 17 "AgedLogModel" "torn" "[Z", .methodLink RX8 84 yX8_sum, .static yX8_sum, .code yX8_sum cX8_sum 6 (some .int), .constant RX8 68 (-1640531535)] ++ wsX80)
def wsX8_endOf : List Cond := .code yX8_endOf cX8_endOf 2 (some .int) :: ([.fieldLink RX8 87 "AgedLogModel" "open" "I", .fieldLink RX8 90 "AgedLogModel" "place" "I"] ++ wsX80)
def wsX8_standing_r1 : List Cond := [Cond.fieldLink RX8 14 "AgedLogModel" "memory" "[B", Cond.methodLink RX8 93 yX8_endOf, Cond.instanceMethod yX8_endOf, Cond.selects RX8 yX8_endOf yX8_endOf, Cond.initialized RX8, Cond.code yX8_endOf cX8_endOf 2 (some .int), Cond.fieldLink RX8 87 "AgedLogModel" "open" "I", Cond.fieldLink RX8 90 "AgedLogModel" "place" "I", Cond.methodLink RX8 97 yX8_right, Cond.instanceMethod yX8_right, Cond.selects RX8 yX8_right yX8_right, Cond.code yX8_right cX8_right 8 (some .int), Cond.methodLink RX8 72 yX8_at, Cond.static yX8_at, Cond.code yX8_at cX8_at 2 (some .int), Cond.methodLink RX8 76 yX8_number, Cond.static yX8_number, Cond.code yX8_number cX8_number 5 (some .int), Cond.methodLink RX8 80 yX8_isTorn, Cond.instanceMethod yX8_isTorn, Cond.selects RX8 yX8_isTorn yX8_isTorn, Cond.code yX8_isTorn cX8_isTorn 5 (some .boolean), Cond.fieldLink RX8 17 "AgedLogModel" "torn" "[Z", Cond.methodLink RX8 84 yX8_sum]
def wsX8_standing_r2 : List Cond := [Cond.static yX8_sum, Cond.code yX8_sum cX8_sum 6 (some .int), Cond.constant RX8 68 (-1640531535)]
def wsX8_standing : List Cond := .code yX8_standing cX8_standing 6 (some .int) :: ((wsX8_standing_r1 ++ wsX8_standing_r2) ++ wsX80)
def wsX8_recordSize : List Cond := .code yX8_recordSize cX8_recordSize 2 (some .int) :: ([.fieldLink RX8 14 "AgedLogModel" "memory" "[B", .fieldLink RX8 29 "AgedLogModel" "kSegment" "[I", .fieldLink RX8 32 "AgedLogModel" "kAt" "[I", .methodLink RX8 72 yX8_at, .static yX8_at, .initialized RX8, .code yX8_at cX8_at 2 (some .int)] ++ wsX80)
def wsX8_lives : List Cond := .code yX8_lives cX8_lives 4 (some .int) :: ([.fieldLink RX8 29 "AgedLogModel" "kSegment" "[I", .methodLink RX8 101 yX8_recordSize, .instanceMethod yX8_recordSize, .selects RX8 yX8_recordSize yX8_recordSize, .initialized RX8, .code yX8_recordSize cX8_recordSize 2 (some .int), .fieldLink RX8 14 "AgedLogModel" "memory" "[B", .fieldLink RX8 32 "AgedLogModel" "kAt" "[I", .methodLink RX8 72 yX8_at, .static yX8_at, .code yX8_at cX8_at 2 (some .int)] ++ wsX80)
def wsX8_frees : List Cond := .code yX8_frees cX8_frees 3 (some .int) :: ([.fieldLink RX8 21 "AgedLogModel" "state" "[I"] ++ wsX80)
def wsX8_came : List Cond := .code yX8_came cX8_came 4 none :: ([.fieldLink RX8 104 "AgedLogModel" "dirty" "I", .fieldLink RX8 35 "AgedLogModel" "dSegment" "[I", .fieldLink RX8 41 "AgedLogModel" "dTo" "[I", .fieldLink RX8 38 "AgedLogModel" "dFrom" "[I"] ++ wsX80)
def wsX8_openNext_r1 : List Cond := [Cond.fieldLink RX8 21 "AgedLogModel" "state" "[I", Cond.fieldLink RX8 87 "AgedLogModel" "open" "I", Cond.fieldLink RX8 107 "AgedLogModel" "order" "I", Cond.fieldLink RX8 14 "AgedLogModel" "memory" "[B", Cond.fieldLink RX8 69 "AgedLogModel" "size" "I", Cond.fieldLink RX8 47 "AgedLogModel" "made" "[B", Cond.fieldLink RX8 90 "AgedLogModel" "place" "I", Cond.fieldLink RX8 50 "AgedLogModel" "young" "[I", Cond.methodLink RX8 72 yX8_at, Cond.static yX8_at, Cond.initialized RX8, Cond.code yX8_at cX8_at 2 (some .int), Cond.methodLink RX8 110 yX8_octets, Cond.instanceMethod yX8_octets, Cond.selects RX8 yX8_octets yX8_octets, Cond.code yX8_octets cX8_octets 4 none, Cond.methodLink RX8 84 yX8_sum, Cond.static yX8_sum, Cond.code yX8_sum cX8_sum 6 (some .int), Cond.constant RX8 68 (-1640531535), Cond.methodLink RX8 114 yX8_came, Cond.instanceMethod yX8_came, Cond.selects RX8 yX8_came yX8_came, Cond.code yX8_came cX8_came 4 none]
def wsX8_openNext_r2 : List Cond := [Cond.fieldLink RX8 104 "AgedLogModel" "dirty" "I", Cond.fieldLink RX8 35 "AgedLogModel" "dSegment" "[I", Cond.fieldLink RX8 41 "AgedLogModel" "dTo" "[I", Cond.fieldLink RX8 38 "AgedLogModel" "dFrom" "[I"]
def wsX8_openNext : List Cond := .code yX8_openNext cX8_openNext 3 none :: ((wsX8_openNext_r1 ++ wsX8_openNext_r2) ++ wsX80)
def wsX8_opens : List Cond := .code yX8_opens cX8_opens 2 (some .boolean) :: ([.fieldLink RX8 87 "AgedLogModel" "open" "I", .fieldLink RX8 90 "AgedLogModel" "place" "I"] ++ wsX80)
def wsX8_record_r1 : List Cond := [Cond.fieldLink RX8 69 "AgedLogModel" "size" "I", Cond.fieldLink RX8 25 "AgedLogModel" "sequence" "I", Cond.fieldLink RX8 53 "AgedLogModel" "value" "[B", Cond.fieldLink RX8 47 "AgedLogModel" "made" "[B", Cond.fieldLink RX8 14 "AgedLogModel" "memory" "[B", Cond.fieldLink RX8 87 "AgedLogModel" "open" "I", Cond.fieldLink RX8 90 "AgedLogModel" "place" "I", Cond.fieldLink RX8 29 "AgedLogModel" "kSegment" "[I", Cond.fieldLink RX8 32 "AgedLogModel" "kAt" "[I", Cond.fieldLink RX8 50 "AgedLogModel" "young" "[I", Cond.methodLink RX8 118 yX8_opens, Cond.instanceMethod yX8_opens, Cond.selects RX8 yX8_opens yX8_opens, Cond.initialized RX8, Cond.code yX8_opens cX8_opens 2 (some .boolean), Cond.methodLink RX8 122 yX8_openNext, Cond.instanceMethod yX8_openNext, Cond.selects RX8 yX8_openNext yX8_openNext, Cond.code yX8_openNext cX8_openNext 3 none, Cond.fieldLink RX8 21 "AgedLogModel" "state" "[I", Cond.fieldLink RX8 107 "AgedLogModel" "order" "I", Cond.methodLink RX8 72 yX8_at, Cond.static yX8_at, Cond.code yX8_at cX8_at 2 (some .int)]
def wsX8_record_r2 : List Cond := [Cond.methodLink RX8 110 yX8_octets, Cond.instanceMethod yX8_octets, Cond.selects RX8 yX8_octets yX8_octets, Cond.code yX8_octets cX8_octets 4 none, Cond.methodLink RX8 84 yX8_sum, Cond.static yX8_sum, Cond.code yX8_sum cX8_sum 6 (some .int), Cond.constant RX8 68 (-1640531535), Cond.methodLink RX8 114 yX8_came, Cond.instanceMethod yX8_came, Cond.selects RX8 yX8_came yX8_came, Cond.code yX8_came cX8_came 4 none, Cond.fieldLink RX8 104 "AgedLogModel" "dirty" "I", Cond.fieldLink RX8 35 "AgedLogModel" "dSegment" "[I", Cond.fieldLink RX8 41 "AgedLogModel" "dTo" "[I", Cond.fieldLink RX8 38 "AgedLogModel" "dFrom" "[I"]
def wsX8_record : List Cond := .code yX8_record cX8_record 6 none :: ((wsX8_record_r1 ++ wsX8_record_r2) ++ wsX80)
def wsX8_feed : List Cond := .code yX8_feed cX8_feed 5 (some .int) :: ([.fieldLink RX8 65 "AgedLogModel" "code" "I", .fieldLink RX8 129 "AgedLogModel" "handSize" "I", .fieldLink RX8 44 "AgedLogModel" "hand" "[B", .methodLink RX8 125 yX8_in, .static yX8_in, .initialized RX8, .code yX8_in cX8_in 3 (some .boolean)] ++ wsX80)
def wsX8_put_r1 : List Cond := [Cond.fieldLink RX8 65 "AgedLogModel" "code" "I", Cond.fieldLink RX8 132 "AgedLogModel" "down" "Z", Cond.fieldLink RX8 129 "AgedLogModel" "handSize" "I", Cond.fieldLink RX8 53 "AgedLogModel" "value" "[B", Cond.fieldLink RX8 44 "AgedLogModel" "hand" "[B", Cond.fieldLink RX8 140 "AgedLogModel" "clock" "I", Cond.fieldLink RX8 25 "AgedLogModel" "sequence" "I", Cond.methodLink RX8 125 yX8_in, Cond.static yX8_in, Cond.initialized RX8, Cond.code yX8_in cX8_in 3 (some .boolean), Cond.methodLink RX8 118 yX8_opens, Cond.instanceMethod yX8_opens, Cond.selects RX8 yX8_opens yX8_opens, Cond.code yX8_opens cX8_opens 2 (some .boolean), Cond.fieldLink RX8 87 "AgedLogModel" "open" "I", Cond.fieldLink RX8 90 "AgedLogModel" "place" "I", Cond.methodLink RX8 136 yX8_frees, Cond.instanceMethod yX8_frees, Cond.selects RX8 yX8_frees yX8_frees, Cond.code yX8_frees cX8_frees 3 (some .int), Cond.fieldLink RX8 21 "AgedLogModel" "state" "[I", Cond.methodLink RX8 143 yX8_record, Cond.instanceMethod yX8_record]
def wsX8_put_r2 : List Cond := [Cond.selects RX8 yX8_record yX8_record, Cond.code yX8_record cX8_record 6 none, Cond.fieldLink RX8 69 "AgedLogModel" "size" "I", Cond.fieldLink RX8 47 "AgedLogModel" "made" "[B", Cond.fieldLink RX8 14 "AgedLogModel" "memory" "[B", Cond.fieldLink RX8 29 "AgedLogModel" "kSegment" "[I", Cond.fieldLink RX8 32 "AgedLogModel" "kAt" "[I", Cond.fieldLink RX8 50 "AgedLogModel" "young" "[I", Cond.methodLink RX8 122 yX8_openNext, Cond.instanceMethod yX8_openNext, Cond.selects RX8 yX8_openNext yX8_openNext, Cond.code yX8_openNext cX8_openNext 3 none, Cond.fieldLink RX8 107 "AgedLogModel" "order" "I", Cond.methodLink RX8 72 yX8_at, Cond.static yX8_at, Cond.code yX8_at cX8_at 2 (some .int), Cond.methodLink RX8 110 yX8_octets, Cond.instanceMethod yX8_octets, Cond.selects RX8 yX8_octets yX8_octets, Cond.code yX8_octets cX8_octets 4 none, Cond.methodLink RX8 84 yX8_sum, Cond.static yX8_sum, Cond.code yX8_sum cX8_sum 6 (some .int), Cond.constant RX8 68 (-1640531535)]
def wsX8_put_r3 : List Cond := [Cond.methodLink RX8 114 yX8_came, Cond.instanceMethod yX8_came, Cond.selects RX8 yX8_came yX8_came, Cond.code yX8_came cX8_came 4 none, Cond.fieldLink RX8 104 "AgedLogModel" "dirty" "I", Cond.fieldLink RX8 35 "AgedLogModel" "dSegment" "[I", Cond.fieldLink RX8 41 "AgedLogModel" "dTo" "[I", Cond.fieldLink RX8 38 "AgedLogModel" "dFrom" "[I"]
def wsX8_put : List Cond := .code yX8_put cX8_put 3 (some .int) :: ((wsX8_put_r1 ++ (wsX8_put_r2 ++ wsX8_put_r3)) ++ wsX80)
def wsX8_none : List Cond := .code yX8_none cX8_none 2 (some .boolean) :: ([.fieldLink RX8 29 "AgedLogModel" "kSegment" "[I", .methodLink RX8 125 yX8_in, .static yX8_in, .initialized RX8, .code yX8_in cX8_in 3 (some .boolean)] ++ wsX80)
def wsX8_remove_r1 : List Cond := [Cond.fieldLink RX8 65 "AgedLogModel" "code" "I", Cond.fieldLink RX8 132 "AgedLogModel" "down" "Z", Cond.fieldLink RX8 140 "AgedLogModel" "clock" "I", Cond.fieldLink RX8 25 "AgedLogModel" "sequence" "I", Cond.methodLink RX8 147 yX8_none, Cond.instanceMethod yX8_none, Cond.selects RX8 yX8_none yX8_none, Cond.initialized RX8, Cond.code yX8_none cX8_none 2 (some .boolean), Cond.fieldLink RX8 29 "AgedLogModel" "kSegment" "[I", Cond.methodLink RX8 125 yX8_in, Cond.static yX8_in, Cond.code yX8_in cX8_in 3 (some .boolean), Cond.methodLink RX8 118 yX8_opens, Cond.instanceMethod yX8_opens, Cond.selects RX8 yX8_opens yX8_opens, Cond.code yX8_opens cX8_opens 2 (some .boolean), Cond.fieldLink RX8 87 "AgedLogModel" "open" "I", Cond.fieldLink RX8 90 "AgedLogModel" "place" "I", Cond.methodLink RX8 136 yX8_frees, Cond.instanceMethod yX8_frees, Cond.selects RX8 yX8_frees yX8_frees, Cond.code yX8_frees cX8_frees 3 (some .int), Cond.fieldLink RX8 21 "AgedLogModel" "state" "[I"]
def wsX8_remove_r2 : List Cond := [Cond.methodLink RX8 143 yX8_record, Cond.instanceMethod yX8_record, Cond.selects RX8 yX8_record yX8_record, Cond.code yX8_record cX8_record 6 none, Cond.fieldLink RX8 69 "AgedLogModel" "size" "I", Cond.fieldLink RX8 53 "AgedLogModel" "value" "[B", Cond.fieldLink RX8 47 "AgedLogModel" "made" "[B", Cond.fieldLink RX8 14 "AgedLogModel" "memory" "[B", Cond.fieldLink RX8 32 "AgedLogModel" "kAt" "[I", Cond.fieldLink RX8 50 "AgedLogModel" "young" "[I", Cond.methodLink RX8 122 yX8_openNext, Cond.instanceMethod yX8_openNext, Cond.selects RX8 yX8_openNext yX8_openNext, Cond.code yX8_openNext cX8_openNext 3 none, Cond.fieldLink RX8 107 "AgedLogModel" "order" "I", Cond.methodLink RX8 72 yX8_at, Cond.static yX8_at, Cond.code yX8_at cX8_at 2 (some .int), Cond.methodLink RX8 110 yX8_octets, Cond.instanceMethod yX8_octets, Cond.selects RX8 yX8_octets yX8_octets, Cond.code yX8_octets cX8_octets 4 none, Cond.methodLink RX8 84 yX8_sum, Cond.static yX8_sum]
def wsX8_remove_r3 : List Cond := [Cond.code yX8_sum cX8_sum 6 (some .int), Cond.constant RX8 68 (-1640531535), Cond.methodLink RX8 114 yX8_came, Cond.instanceMethod yX8_came, Cond.selects RX8 yX8_came yX8_came, Cond.code yX8_came cX8_came 4 none, Cond.fieldLink RX8 104 "AgedLogModel" "dirty" "I", Cond.fieldLink RX8 35 "AgedLogModel" "dSegment" "[I", Cond.fieldLink RX8 41 "AgedLogModel" "dTo" "[I", Cond.fieldLink RX8 38 "AgedLogModel" "dFrom" "[I"]
def wsX8_remove : List Cond := .code yX8_remove cX8_remove 2 (some .int) :: ((wsX8_remove_r1 ++ (wsX8_remove_r2 ++ wsX8_remove_r3)) ++ wsX80)
def wsX8_size : List Cond := .code yX8_size cX8_size 2 (some .int) :: ([.fieldLink RX8 65 "AgedLogModel" "code" "I", .fieldLink RX8 132 "AgedLogModel" "down" "Z", .methodLink RX8 147 yX8_none, .instanceMethod yX8_none, .selects RX8 yX8_none yX8_none, .initialized RX8, .code yX8_none cX8_none 2 (some .boolean), .fieldLink RX8 29 "AgedLogModel" "kSegment" "[I", .methodLink RX8 125 yX8_in, .static yX8_in, .code yX8_in cX8_in 3 (some .boolean), .methodLink RX8 101 yX8_recordSize, .instanceMethod yX8_recordSize, .selects RX8 yX8_recordSize yX8_recordSize, .code yX8_recordSize cX8_recordSize 2 (some .int), .fieldLink RX8 14 "AgedLogModel" "memory" "[B", .fieldLink RX8 32 "AgedLogModel" "kAt" "[I", .methodLink RX8 72 yX8_at, .static yX8_at, .code yX8_at cX8_at 2 (some .int)] ++ wsX80)
def wsX8_value : List Cond := .code yX8_value cX8_value 3 (some .int) :: ([.fieldLink RX8 65 "AgedLogModel" "code" "I", .fieldLink RX8 132 "AgedLogModel" "down" "Z", .fieldLink RX8 14 "AgedLogModel" "memory" "[B", .fieldLink RX8 29 "AgedLogModel" "kSegment" "[I", .fieldLink RX8 32 "AgedLogModel" "kAt" "[I", .methodLink RX8 147 yX8_none, .instanceMethod yX8_none, .selects RX8 yX8_none yX8_none, .initialized RX8, .code yX8_none cX8_none 2 (some .boolean), .methodLink RX8 125 yX8_in, .static yX8_in, .code yX8_in cX8_in 3 (some .boolean), .methodLink RX8 101 yX8_recordSize, .instanceMethod yX8_recordSize, .selects RX8 yX8_recordSize yX8_recordSize, .code yX8_recordSize cX8_recordSize 2 (some .int), .methodLink RX8 72 yX8_at, .static yX8_at, .code yX8_at cX8_at 2 (some .int)] ++ wsX80)
def wsX8_write : List Cond := .code yX8_write cX8_write 7 (some .boolean) :: ([.fieldLink RX8 150 "AgedLogModel" "cutAt" "I", .fieldLink RX8 153 "AgedLogModel" "sectors" "I", .fieldLink RX8 156 "AgedLogModel" "cutFirst" "I", .fieldLink RX8 8 "AgedLogModel" "disk" "[B", .fieldLink RX8 17 "AgedLogModel" "torn" "[Z", .fieldLink RX8 132 "AgedLogModel" "down" "Z"] ++ wsX80)
def wsX8_syncAll : List Cond := .code yX8_syncAll cX8_syncAll 5 (some .int) :: ([.fieldLink RX8 104 "AgedLogModel" "dirty" "I", .fieldLink RX8 41 "AgedLogModel" "dTo" "[I", .fieldLink RX8 35 "AgedLogModel" "dSegment" "[I", .fieldLink RX8 14 "AgedLogModel" "memory" "[B", .fieldLink RX8 38 "AgedLogModel" "dFrom" "[I", .methodLink RX8 72 yX8_at, .static yX8_at, .initialized RX8, .code yX8_at cX8_at 2 (some .int), .methodLink RX8 159 yX8_write, .instanceMethod yX8_write, .selects RX8 yX8_write yX8_write, .code yX8_write cX8_write 7 (some .boolean), .fieldLink RX8 150 "AgedLogModel" "cutAt" "I", .fieldLink RX8 153 "AgedLogModel" "sectors" "I", .fieldLink RX8 156 "AgedLogModel" "cutFirst" "I", .fieldLink RX8 8 "AgedLogModel" "disk" "[B", .fieldLink RX8 17 "AgedLogModel" "torn" "[Z", .fieldLink RX8 132 "AgedLogModel" "down" "Z"] ++ wsX80)
def wsX8_sync : List Cond := .code yX8_sync cX8_sync 1 (some .int) :: ([.fieldLink RX8 65 "AgedLogModel" "code" "I", .fieldLink RX8 132 "AgedLogModel" "down" "Z", .methodLink RX8 163 yX8_syncAll, .instanceMethod yX8_syncAll, .selects RX8 yX8_syncAll yX8_syncAll, .initialized RX8, .code yX8_syncAll cX8_syncAll 5 (some .int), .fieldLink RX8 104 "AgedLogModel" "dirty" "I", .fieldLink RX8 41 "AgedLogModel" "dTo" "[I", .fieldLink RX8 35 "AgedLogModel" "dSegment" "[I", .fieldLink RX8 14 "AgedLogModel" "memory" "[B", .fieldLink RX8 38 "AgedLogModel" "dFrom" "[I", .methodLink RX8 72 yX8_at, .static yX8_at, .code yX8_at cX8_at 2 (some .int), .methodLink RX8 159 yX8_write, .instanceMethod yX8_write, .selects RX8 yX8_write yX8_write, .code yX8_write cX8_write 7 (some .boolean), .fieldLink RX8 150 "AgedLogModel" "cutAt" "I", .fieldLink RX8 153 "AgedLogModel" "sectors" "I", .fieldLink RX8 156 "AgedLogModel" "cutFirst" "I", .fieldLink RX8 8 "AgedLogModel" "disk" "[B", .fieldLink RX8 17 "AgedLogModel" "torn" "[Z"] ++ wsX80)
def wsX8_keys : List Cond := .code yX8_keys cX8_keys 3 (some .int) :: ([.fieldLink RX8 29 "AgedLogModel" "kSegment" "[I"] ++ wsX80)
def wsX8_checkpoint_r1 : List Cond := [Cond.fieldLink RX8 65 "AgedLogModel" "code" "I", Cond.fieldLink RX8 132 "AgedLogModel" "down" "Z", Cond.fieldLink RX8 69 "AgedLogModel" "size" "I", Cond.fieldLink RX8 166 "AgedLogModel" "number" "I", Cond.fieldLink RX8 25 "AgedLogModel" "sequence" "I", Cond.fieldLink RX8 140 "AgedLogModel" "clock" "I", Cond.fieldLink RX8 87 "AgedLogModel" "open" "I", Cond.fieldLink RX8 90 "AgedLogModel" "place" "I", Cond.fieldLink RX8 107 "AgedLogModel" "order" "I", Cond.fieldLink RX8 29 "AgedLogModel" "kSegment" "[I", Cond.fieldLink RX8 32 "AgedLogModel" "kAt" "[I", Cond.fieldLink RX8 21 "AgedLogModel" "state" "[I", Cond.fieldLink RX8 47 "AgedLogModel" "made" "[B", Cond.fieldLink RX8 62 "AgedLogModel" "turn" "I", Cond.methodLink RX8 163 yX8_syncAll, Cond.instanceMethod yX8_syncAll, Cond.selects RX8 yX8_syncAll yX8_syncAll, Cond.initialized RX8, Cond.code yX8_syncAll cX8_syncAll 5 (some .int), Cond.fieldLink RX8 104 "AgedLogModel" "dirty" "I", Cond.fieldLink RX8 41 "AgedLogModel" "dTo" "[I", Cond.fieldLink RX8 35 "AgedLogModel" "dSegment" "[I", Cond.fieldLink RX8 14 "AgedLogModel" "memory" "[B", Cond.fieldLink RX8 38 "AgedLogModel" "dFrom" "[I"]
def wsX8_checkpoint_r2 : List Cond := [Cond.methodLink RX8 72 yX8_at, Cond.static yX8_at, Cond.code yX8_at cX8_at 2 (some .int), Cond.methodLink RX8 159 yX8_write, Cond.instanceMethod yX8_write, Cond.selects RX8 yX8_write yX8_write, Cond.code yX8_write cX8_write 7 (some .boolean), Cond.fieldLink RX8 150 "AgedLogModel" "cutAt" "I", Cond.fieldLink RX8 153 "AgedLogModel" "sectors" "I", Cond.fieldLink RX8 156 "AgedLogModel" "cutFirst" "I", Cond.fieldLink RX8 8 "AgedLogModel" "disk" "[B", Cond.fieldLink RX8 17 "AgedLogModel" "torn" "[Z", Cond.methodLink RX8 110 yX8_octets, Cond.instanceMethod yX8_octets, Cond.selects RX8 yX8_octets yX8_octets, Cond.code yX8_octets cX8_octets 4 none, Cond.methodLink RX8 168 yX8_keys, Cond.instanceMethod yX8_keys, Cond.selects RX8 yX8_keys yX8_keys, Cond.code yX8_keys cX8_keys 3 (some .int), Cond.methodLink RX8 84 yX8_sum, Cond.static yX8_sum, Cond.code yX8_sum cX8_sum 6 (some .int), Cond.constant RX8 68 (-1640531535)]
def wsX8_checkpoint : List Cond := .code yX8_checkpoint cX8_checkpoint 3 (some .int) :: ((wsX8_checkpoint_r1 ++ wsX8_checkpoint_r2) ++ wsX80)
def wsX8_timeOf : List Cond := .code yX8_timeOf cX8_timeOf 2 (some .int) :: ([.fieldLink RX8 14 "AgedLogModel" "memory" "[B", .fieldLink RX8 29 "AgedLogModel" "kSegment" "[I", .fieldLink RX8 32 "AgedLogModel" "kAt" "[I", .methodLink RX8 72 yX8_at, .static yX8_at, .initialized RX8, .code yX8_at cX8_at 2 (some .int), .methodLink RX8 76 yX8_number, .static yX8_number, .code yX8_number cX8_number 5 (some .int)] ++ wsX80)
def wsX8_sequenceOf : List Cond := .code yX8_sequenceOf cX8_sequenceOf 2 (some .int) :: ([.fieldLink RX8 14 "AgedLogModel" "memory" "[B", .fieldLink RX8 29 "AgedLogModel" "kSegment" "[I", .fieldLink RX8 32 "AgedLogModel" "kAt" "[I", .methodLink RX8 72 yX8_at, .static yX8_at, .initialized RX8, .code yX8_at cX8_at 2 (some .int), .methodLink RX8 76 yX8_number, .static yX8_number, .code yX8_number cX8_number 5 (some .int)] ++ wsX80)
def wsX8_best : List Cond := .code yX8_best cX8_best 11 (some .int) :: ([.fieldLink RX8 21 "AgedLogModel" "state" "[I", .fieldLink RX8 56 "AgedLogModel" "taken" "[Z", .constantLong RX8 174 (1024), .fieldLink RX8 140 "AgedLogModel" "clock" "I", .fieldLink RX8 50 "AgedLogModel" "young" "[I", .methodLink RX8 171 yX8_lives, .instanceMethod yX8_lives, .selects RX8 yX8_lives yX8_lives, .initialized RX8, .code yX8_lives cX8_lives 4 (some .int), .fieldLink RX8 29 "AgedLogModel" "kSegment" "[I", .methodLink RX8 101 yX8_recordSize, .instanceMethod yX8_recordSize, .selects RX8 yX8_recordSize yX8_recordSize, .code yX8_recordSize cX8_recordSize 2 (some .int), .fieldLink RX8 14 "AgedLogModel" "memory" "[B", .fieldLink RX8 32 "AgedLogModel" "kAt" "[I", .methodLink RX8 72 yX8_at, .static yX8_at, .code yX8_at cX8_at 2 (some .int)] ++ wsX80)
def wsX8_clean_r1 : List Cond := [Cond.fieldLink RX8 65 "AgedLogModel" "code" "I", Cond.fieldLink RX8 132 "AgedLogModel" "down" "Z", Cond.fieldLink RX8 56 "AgedLogModel" "taken" "[Z", Cond.fieldLink RX8 29 "AgedLogModel" "kSegment" "[I", Cond.fieldLink RX8 59 "AgedLogModel" "sorted" "[I", Cond.fieldLink RX8 87 "AgedLogModel" "open" "I", Cond.fieldLink RX8 90 "AgedLogModel" "place" "I", Cond.fieldLink RX8 32 "AgedLogModel" "kAt" "[I", Cond.fieldLink RX8 53 "AgedLogModel" "value" "[B", Cond.fieldLink RX8 14 "AgedLogModel" "memory" "[B", Cond.fieldLink RX8 21 "AgedLogModel" "state" "[I", Cond.methodLink RX8 125 yX8_in, Cond.static yX8_in, Cond.initialized RX8, Cond.code yX8_in cX8_in 3 (some .boolean), Cond.methodLink RX8 176 yX8_best, Cond.instanceMethod yX8_best, Cond.selects RX8 yX8_best yX8_best, Cond.code yX8_best cX8_best 11 (some .int), Cond.constantLong RX8 174 (1024), Cond.fieldLink RX8 140 "AgedLogModel" "clock" "I", Cond.fieldLink RX8 50 "AgedLogModel" "young" "[I", Cond.methodLink RX8 171 yX8_lives, Cond.instanceMethod yX8_lives]
def wsX8_clean_r2 : List Cond := [Cond.selects RX8 yX8_lives yX8_lives, Cond.code yX8_lives cX8_lives 4 (some .int), Cond.methodLink RX8 101 yX8_recordSize, Cond.instanceMethod yX8_recordSize, Cond.selects RX8 yX8_recordSize yX8_recordSize, Cond.code yX8_recordSize cX8_recordSize 2 (some .int), Cond.methodLink RX8 72 yX8_at, Cond.static yX8_at, Cond.code yX8_at cX8_at 2 (some .int), Cond.methodLink RX8 179 yX8_timeOf, Cond.instanceMethod yX8_timeOf, Cond.selects RX8 yX8_timeOf yX8_timeOf, Cond.code yX8_timeOf cX8_timeOf 2 (some .int), Cond.methodLink RX8 76 yX8_number, Cond.static yX8_number, Cond.code yX8_number cX8_number 5 (some .int), Cond.methodLink RX8 182 yX8_sequenceOf, Cond.instanceMethod yX8_sequenceOf, Cond.selects RX8 yX8_sequenceOf yX8_sequenceOf, Cond.code yX8_sequenceOf cX8_sequenceOf 2 (some .int), Cond.methodLink RX8 136 yX8_frees, Cond.instanceMethod yX8_frees, Cond.selects RX8 yX8_frees yX8_frees, Cond.code yX8_frees cX8_frees 3 (some .int)]
def wsX8_clean_r3 : List Cond := [Cond.methodLink RX8 143 yX8_record, Cond.instanceMethod yX8_record, Cond.selects RX8 yX8_record yX8_record, Cond.code yX8_record cX8_record 6 none, Cond.fieldLink RX8 69 "AgedLogModel" "size" "I", Cond.fieldLink RX8 25 "AgedLogModel" "sequence" "I", Cond.fieldLink RX8 47 "AgedLogModel" "made" "[B", Cond.methodLink RX8 118 yX8_opens, Cond.instanceMethod yX8_opens, Cond.selects RX8 yX8_opens yX8_opens, Cond.code yX8_opens cX8_opens 2 (some .boolean), Cond.methodLink RX8 122 yX8_openNext, Cond.instanceMethod yX8_openNext, Cond.selects RX8 yX8_openNext yX8_openNext, Cond.code yX8_openNext cX8_openNext 3 none, Cond.fieldLink RX8 107 "AgedLogModel" "order" "I", Cond.methodLink RX8 110 yX8_octets, Cond.instanceMethod yX8_octets, Cond.selects RX8 yX8_octets yX8_octets, Cond.code yX8_octets cX8_octets 4 none, Cond.methodLink RX8 84 yX8_sum, Cond.static yX8_sum, Cond.code yX8_sum cX8_sum 6 (some .int), Cond.constant RX8 68 (-1640531535)]
def wsX8_clean_r4 : List Cond := [Cond.methodLink RX8 114 yX8_came, Cond.instanceMethod yX8_came, Cond.selects RX8 yX8_came yX8_came, Cond.code yX8_came cX8_came 4 none, Cond.fieldLink RX8 104 "AgedLogModel" "dirty" "I", Cond.fieldLink RX8 35 "AgedLogModel" "dSegment" "[I", Cond.fieldLink RX8 41 "AgedLogModel" "dTo" "[I", Cond.fieldLink RX8 38 "AgedLogModel" "dFrom" "[I"]
def wsX8_clean : List Cond := .code yX8_clean cX8_clean 12 (some .int) :: ((wsX8_clean_r1 ++ (wsX8_clean_r2 ++ (wsX8_clean_r3 ++ wsX8_clean_r4))) ++ wsX80)
def wsX8_tick : List Cond := .code yX8_tick cX8_tick 2 (some .int) :: ([.fieldLink RX8 65 "AgedLogModel" "code" "I", .fieldLink RX8 132 "AgedLogModel" "down" "Z", .constant RX8 185 (100000), .fieldLink RX8 140 "AgedLogModel" "clock" "I", .methodLink RX8 125 yX8_in, .static yX8_in, .initialized RX8, .code yX8_in cX8_in 3 (some .boolean)] ++ wsX80)
def wsX8_cut : List Cond := .code yX8_cut cX8_cut 3 (some .int) :: ([.fieldLink RX8 65 "AgedLogModel" "code" "I", .fieldLink RX8 132 "AgedLogModel" "down" "Z", .fieldLink RX8 150 "AgedLogModel" "cutAt" "I", .fieldLink RX8 156 "AgedLogModel" "cutFirst" "I", .methodLink RX8 125 yX8_in, .static yX8_in, .initialized RX8, .code yX8_in cX8_in 3 (some .boolean)] ++ wsX80)
def wsX8_isRight : List Cond := .code yX8_isRight cX8_isRight 11 (some .boolean) :: ([.fieldLink RX8 8 "AgedLogModel" "disk" "[B", .methodLink RX8 76 yX8_number, .static yX8_number, .initialized RX8, .code yX8_number cX8_number 5 (some .int), .methodLink RX8 80 yX8_isTorn, .instanceMethod yX8_isTorn, .selects RX8 yX8_isTorn yX8_isTorn, .code yX8_isTorn cX8_isTorn 5 (some .boolean), .fieldLink RX8 17 "AgedLogModel" "torn" "[Z", .methodLink RX8 84 yX8_sum, .static yX8_sum, .code yX8_sum cX8_sum 6 (some .int), .constant RX8 68 (-1640531535), .methodLink RX8 125 yX8_in, .static yX8_in, .code yX8_in cX8_in 3 (some .boolean)] ++ wsX80)
def wsX8_load_r1 : List Cond := [Cond.fieldLink RX8 8 "AgedLogModel" "disk" "[B", Cond.fieldLink RX8 166 "AgedLogModel" "number" "I", Cond.fieldLink RX8 25 "AgedLogModel" "sequence" "I", Cond.fieldLink RX8 140 "AgedLogModel" "clock" "I", Cond.fieldLink RX8 87 "AgedLogModel" "open" "I", Cond.fieldLink RX8 90 "AgedLogModel" "place" "I", Cond.fieldLink RX8 107 "AgedLogModel" "order" "I", Cond.fieldLink RX8 62 "AgedLogModel" "turn" "I", Cond.fieldLink RX8 21 "AgedLogModel" "state" "[I", Cond.fieldLink RX8 14 "AgedLogModel" "memory" "[B", Cond.fieldLink RX8 29 "AgedLogModel" "kSegment" "[I", Cond.fieldLink RX8 32 "AgedLogModel" "kAt" "[I", Cond.methodLink RX8 76 yX8_number, Cond.static yX8_number, Cond.initialized RX8, Cond.code yX8_number cX8_number 5 (some .int), Cond.methodLink RX8 93 yX8_endOf, Cond.instanceMethod yX8_endOf, Cond.selects RX8 yX8_endOf yX8_endOf, Cond.code yX8_endOf cX8_endOf 2 (some .int), Cond.methodLink RX8 97 yX8_right, Cond.instanceMethod yX8_right, Cond.selects RX8 yX8_right yX8_right, Cond.code yX8_right cX8_right 8 (some .int)]
def wsX8_load_r2 : List Cond := [Cond.methodLink RX8 72 yX8_at, Cond.static yX8_at, Cond.code yX8_at cX8_at 2 (some .int), Cond.methodLink RX8 80 yX8_isTorn, Cond.instanceMethod yX8_isTorn, Cond.selects RX8 yX8_isTorn yX8_isTorn, Cond.code yX8_isTorn cX8_isTorn 5 (some .boolean), Cond.fieldLink RX8 17 "AgedLogModel" "torn" "[Z", Cond.methodLink RX8 84 yX8_sum, Cond.static yX8_sum, Cond.code yX8_sum cX8_sum 6 (some .int), Cond.constant RX8 68 (-1640531535)]
def wsX8_load : List Cond := .code yX8_load cX8_load 9 none :: ((wsX8_load_r1 ++ wsX8_load_r2) ++ wsX80)
def wsX8_counts : List Cond := .code yX8_counts cX8_counts 3 (some .boolean) :: ([.fieldLink RX8 14 "AgedLogModel" "memory" "[B", .fieldLink RX8 25 "AgedLogModel" "sequence" "I", .methodLink RX8 97 yX8_right, .instanceMethod yX8_right, .selects RX8 yX8_right yX8_right, .initialized RX8, .code yX8_right cX8_right 8 (some .int), .methodLink RX8 72 yX8_at, .static yX8_at, .code yX8_at cX8_at 2 (some .int), .methodLink RX8 76 yX8_number, .static yX8_number, .code yX8_number cX8_number 5 (some .int), .methodLink RX8 80 yX8_isTorn, .instanceMethod yX8_isTorn, .selects RX8 yX8_isTorn yX8_isTorn, .code yX8_isTorn cX8_isTorn 5 (some .boolean), .fieldLink RX8 17 "AgedLogModel" "torn" "[Z", .methodLink RX8 84 yX8_sum, .static yX8_sum, .code yX8_sum cX8_sum 6 (some .int), .constant RX8 68 (-1640531535)] ++ wsX80)
def wsX8_goesOn_r1 : List Cond := [Cond.fieldLink RX8 21 "AgedLogModel" "state" "[I", Cond.fieldLink RX8 14 "AgedLogModel" "memory" "[B", Cond.fieldLink RX8 107 "AgedLogModel" "order" "I", Cond.fieldLink RX8 87 "AgedLogModel" "open" "I", Cond.fieldLink RX8 90 "AgedLogModel" "place" "I", Cond.methodLink RX8 72 yX8_at, Cond.static yX8_at, Cond.initialized RX8, Cond.code yX8_at cX8_at 2 (some .int), Cond.methodLink RX8 76 yX8_number, Cond.static yX8_number, Cond.code yX8_number cX8_number 5 (some .int), Cond.methodLink RX8 80 yX8_isTorn, Cond.instanceMethod yX8_isTorn, Cond.selects RX8 yX8_isTorn yX8_isTorn, Cond.code yX8_isTorn cX8_isTorn 5 (some .boolean), Cond.fieldLink RX8 17 "AgedLogModel" "torn" "[Z", Cond.methodLink RX8 84 yX8_sum, Cond.static yX8_sum, Cond.code yX8_sum cX8_sum 6 (some .int), Cond.constant RX8 68 (-1640531535), Cond.methodLink RX8 186 yX8_counts, Cond.instanceMethod yX8_counts, Cond.selects RX8 yX8_counts yX8_counts]
def wsX8_goesOn_r2 : List Cond := [Cond.code yX8_counts cX8_counts 3 (some .boolean), Cond.fieldLink RX8 25 "AgedLogModel" "sequence" "I", Cond.methodLink RX8 97 yX8_right, Cond.instanceMethod yX8_right, Cond.selects RX8 yX8_right yX8_right, Cond.code yX8_right cX8_right 8 (some .int)]
def wsX8_goesOn : List Cond := .code yX8_goesOn cX8_goesOn 4 (some .boolean) :: ((wsX8_goesOn_r1 ++ wsX8_goesOn_r2) ++ wsX80)
def wsX8_start_r1 : List Cond := [Cond.fieldLink RX8 65 "AgedLogModel" "code" "I", Cond.fieldLink RX8 132 "AgedLogModel" "down" "Z", Cond.fieldLink RX8 150 "AgedLogModel" "cutAt" "I", Cond.fieldLink RX8 104 "AgedLogModel" "dirty" "I", Cond.constant RX8 7 (65536), Cond.fieldLink RX8 14 "AgedLogModel" "memory" "[B", Cond.fieldLink RX8 8 "AgedLogModel" "disk" "[B", Cond.fieldLink RX8 29 "AgedLogModel" "kSegment" "[I", Cond.fieldLink RX8 21 "AgedLogModel" "state" "[I", Cond.fieldLink RX8 87 "AgedLogModel" "open" "I", Cond.fieldLink RX8 90 "AgedLogModel" "place" "I", Cond.fieldLink RX8 107 "AgedLogModel" "order" "I", Cond.fieldLink RX8 25 "AgedLogModel" "sequence" "I", Cond.fieldLink RX8 140 "AgedLogModel" "clock" "I", Cond.fieldLink RX8 166 "AgedLogModel" "number" "I", Cond.fieldLink RX8 62 "AgedLogModel" "turn" "I", Cond.fieldLink RX8 32 "AgedLogModel" "kAt" "[I", Cond.fieldLink RX8 50 "AgedLogModel" "young" "[I", Cond.methodLink RX8 189 yX8_isRight, Cond.instanceMethod yX8_isRight, Cond.selects RX8 yX8_isRight yX8_isRight, Cond.initialized RX8, Cond.code yX8_isRight cX8_isRight 11 (some .boolean), Cond.methodLink RX8 76 yX8_number]
def wsX8_start_r2 : List Cond := [Cond.static yX8_number, Cond.code yX8_number cX8_number 5 (some .int), Cond.methodLink RX8 80 yX8_isTorn, Cond.instanceMethod yX8_isTorn, Cond.selects RX8 yX8_isTorn yX8_isTorn, Cond.code yX8_isTorn cX8_isTorn 5 (some .boolean), Cond.fieldLink RX8 17 "AgedLogModel" "torn" "[Z", Cond.methodLink RX8 84 yX8_sum, Cond.static yX8_sum, Cond.code yX8_sum cX8_sum 6 (some .int), Cond.constant RX8 68 (-1640531535), Cond.methodLink RX8 125 yX8_in, Cond.static yX8_in, Cond.code yX8_in cX8_in 3 (some .boolean), Cond.methodLink RX8 192 yX8_load, Cond.instanceMethod yX8_load, Cond.selects RX8 yX8_load yX8_load, Cond.code yX8_load cX8_load 9 none, Cond.methodLink RX8 93 yX8_endOf, Cond.instanceMethod yX8_endOf, Cond.selects RX8 yX8_endOf yX8_endOf, Cond.code yX8_endOf cX8_endOf 2 (some .int), Cond.methodLink RX8 97 yX8_right, Cond.instanceMethod yX8_right]
def wsX8_start_r3 : List Cond := [Cond.selects RX8 yX8_right yX8_right, Cond.code yX8_right cX8_right 8 (some .int), Cond.methodLink RX8 72 yX8_at, Cond.static yX8_at, Cond.code yX8_at cX8_at 2 (some .int), Cond.methodLink RX8 186 yX8_counts, Cond.instanceMethod yX8_counts, Cond.selects RX8 yX8_counts yX8_counts, Cond.code yX8_counts cX8_counts 3 (some .boolean), Cond.methodLink RX8 196 yX8_goesOn, Cond.instanceMethod yX8_goesOn, Cond.selects RX8 yX8_goesOn yX8_goesOn, Cond.code yX8_goesOn cX8_goesOn 4 (some .boolean), Cond.methodLink RX8 200 yX8_standing, Cond.instanceMethod yX8_standing, Cond.selects RX8 yX8_standing yX8_standing, Cond.code yX8_standing cX8_standing 6 (some .int)]
def wsX8_start : List Cond := .code yX8_start cX8_start 8 (some .int) :: ((wsX8_start_r1 ++ (wsX8_start_r2 ++ wsX8_start_r3)) ++ wsX80)
def wsX8_disk : List Cond := .code yX8_disk cX8_disk 3 (some .int) :: ([.fieldLink RX8 65 "AgedLogModel" "code" "I", .fieldLink RX8 8 "AgedLogModel" "disk" "[B", .methodLink RX8 125 yX8_in, .static yX8_in, .initialized RX8, .code yX8_in cX8_in 3 (some .boolean), .methodLink RX8 72 yX8_at, .static yX8_at, .code yX8_at cX8_at 2 (some .int)] ++ wsX80)
def wsX8_poke : List Cond := .code yX8_poke cX8_poke 4 (some .int) :: ([.fieldLink RX8 65 "AgedLogModel" "code" "I", .fieldLink RX8 8 "AgedLogModel" "disk" "[B", .methodLink RX8 125 yX8_in, .static yX8_in, .initialized RX8, .code yX8_in cX8_in 3 (some .boolean), .methodLink RX8 72 yX8_at, .static yX8_at, .code yX8_at cX8_at 2 (some .int)] ++ wsX80)
def wsX8_segment_r1 : List Cond := [Cond.fieldLink RX8 65 "AgedLogModel" "code" "I", Cond.fieldLink RX8 132 "AgedLogModel" "down" "Z", Cond.fieldLink RX8 21 "AgedLogModel" "state" "[I", Cond.fieldLink RX8 50 "AgedLogModel" "young" "[I", Cond.fieldLink RX8 14 "AgedLogModel" "memory" "[B", Cond.methodLink RX8 125 yX8_in, Cond.static yX8_in, Cond.initialized RX8, Cond.code yX8_in cX8_in 3 (some .boolean), Cond.methodLink RX8 171 yX8_lives, Cond.instanceMethod yX8_lives, Cond.selects RX8 yX8_lives yX8_lives, Cond.code yX8_lives cX8_lives 4 (some .int), Cond.fieldLink RX8 29 "AgedLogModel" "kSegment" "[I", Cond.methodLink RX8 101 yX8_recordSize, Cond.instanceMethod yX8_recordSize, Cond.selects RX8 yX8_recordSize yX8_recordSize, Cond.code yX8_recordSize cX8_recordSize 2 (some .int), Cond.fieldLink RX8 32 "AgedLogModel" "kAt" "[I", Cond.methodLink RX8 72 yX8_at, Cond.static yX8_at, Cond.code yX8_at cX8_at 2 (some .int), Cond.methodLink RX8 76 yX8_number, Cond.static yX8_number]
def wsX8_segment_r2 : List Cond := [Cond.code yX8_number cX8_number 5 (some .int)]
def wsX8_segment : List Cond := .code yX8_segment cX8_segment 3 (some .int) :: ((wsX8_segment_r1 ++ wsX8_segment_r2) ++ wsX80)
def wsX8_where_r1 : List Cond := [Cond.fieldLink RX8 65 "AgedLogModel" "code" "I", Cond.fieldLink RX8 132 "AgedLogModel" "down" "Z", Cond.fieldLink RX8 29 "AgedLogModel" "kSegment" "[I", Cond.fieldLink RX8 32 "AgedLogModel" "kAt" "[I", Cond.methodLink RX8 147 yX8_none, Cond.instanceMethod yX8_none, Cond.selects RX8 yX8_none yX8_none, Cond.initialized RX8, Cond.code yX8_none cX8_none 2 (some .boolean), Cond.methodLink RX8 125 yX8_in, Cond.static yX8_in, Cond.code yX8_in cX8_in 3 (some .boolean), Cond.methodLink RX8 182 yX8_sequenceOf, Cond.instanceMethod yX8_sequenceOf, Cond.selects RX8 yX8_sequenceOf yX8_sequenceOf, Cond.code yX8_sequenceOf cX8_sequenceOf 2 (some .int), Cond.fieldLink RX8 14 "AgedLogModel" "memory" "[B", Cond.methodLink RX8 72 yX8_at, Cond.static yX8_at, Cond.code yX8_at cX8_at 2 (some .int), Cond.methodLink RX8 76 yX8_number, Cond.static yX8_number, Cond.code yX8_number cX8_number 5 (some .int), Cond.methodLink RX8 179 yX8_timeOf]
def wsX8_where_r2 : List Cond := [Cond.instanceMethod yX8_timeOf, Cond.selects RX8 yX8_timeOf yX8_timeOf, Cond.code yX8_timeOf cX8_timeOf 2 (some .int)]
def wsX8_where : List Cond := .code yX8_where cX8_where 3 (some .int) :: ((wsX8_where_r1 ++ wsX8_where_r2) ++ wsX80)
def wsX8_told_r1 : List Cond := [Cond.fieldLink RX8 65 "AgedLogModel" "code" "I", Cond.fieldLink RX8 153 "AgedLogModel" "sectors" "I", Cond.fieldLink RX8 132 "AgedLogModel" "down" "Z", Cond.fieldLink RX8 25 "AgedLogModel" "sequence" "I", Cond.fieldLink RX8 140 "AgedLogModel" "clock" "I", Cond.fieldLink RX8 87 "AgedLogModel" "open" "I", Cond.fieldLink RX8 90 "AgedLogModel" "place" "I", Cond.fieldLink RX8 104 "AgedLogModel" "dirty" "I", Cond.fieldLink RX8 41 "AgedLogModel" "dTo" "[I", Cond.fieldLink RX8 38 "AgedLogModel" "dFrom" "[I", Cond.fieldLink RX8 166 "AgedLogModel" "number" "I", Cond.methodLink RX8 125 yX8_in, Cond.static yX8_in, Cond.initialized RX8, Cond.code yX8_in cX8_in 3 (some .boolean), Cond.methodLink RX8 136 yX8_frees, Cond.instanceMethod yX8_frees, Cond.selects RX8 yX8_frees yX8_frees, Cond.code yX8_frees cX8_frees 3 (some .int), Cond.fieldLink RX8 21 "AgedLogModel" "state" "[I", Cond.methodLink RX8 168 yX8_keys, Cond.instanceMethod yX8_keys, Cond.selects RX8 yX8_keys yX8_keys, Cond.code yX8_keys cX8_keys 3 (some .int)]
def wsX8_told_r2 : List Cond := [Cond.fieldLink RX8 29 "AgedLogModel" "kSegment" "[I"]
def wsX8_told : List Cond := .code yX8_told cX8_told 4 (some .int) :: ((wsX8_told_r1 ++ wsX8_told_r2) ++ wsX80)
def wsJ9_max_7cf53 : List Cond := .code yJ9_max_7cf53 cJ9_max_7cf53 2 (some .int) :: ([])
def wsJ9_min_7cf53 : List Cond := .code yJ9_min_7cf53 cJ9_min_7cf53 2 (some .int) :: ([])
end
section
def wsL_law_r1 : List Cond := [Cond.classLink RL 7 RX7, Cond.instantiable RX7 9, Cond.initialized RX7, Cond.classLink RL 10 RX8, Cond.instantiable RX8 30, Cond.initialized RX8, Cond.constantLong RL 13 (4294967295), Cond.methodLink RL 9 yX7_init, Cond.instanceMethod yX7_init, Cond.code yX7_init cX7_init 1 none, Cond.methodLink RX7 1 objectInit, Cond.instanceMethod objectInit, Cond.code objectInit ⟨#[0xb1]⟩ 1 none, Cond.classLink RX7 7 RX1, Cond.instantiable RX1 5, Cond.initialized RX1, Cond.fieldLink RX7 10 "AgedLog" "drive" "LAgedLog$Disk;", Cond.classLink RX7 16 RX2, Cond.instantiable RX2 3, Cond.initialized RX2, Cond.fieldLink RX7 19 "AgedLog" "index" "LAgedLog$Index;", Cond.classLink RX7 23 RX3, Cond.instantiable RX3 14, Cond.initialized RX3]
def wsL_law_r2 : List Cond := [Cond.fieldLink RX7 28 "AgedLog" "log" "LAgedLog$Log;", Cond.classLink RX7 32 RX0, Cond.instantiable RX0 6, Cond.initialized RX0, Cond.fieldLink RX7 37 "AgedLog" "cleaner" "LAgedLog$Cleaner;", Cond.classLink RX7 41 RX6, Cond.instantiable RX6 6, Cond.initialized RX6, Cond.fieldLink RX7 46 "AgedLog" "regions" "LAgedLog$Regions;", Cond.classLink RX7 50 RX5, Cond.instantiable RX5 4, Cond.initialized RX5, Cond.fieldLink RX7 55 "AgedLog" "recovery" "LAgedLog$Recovery;", Cond.arrayClass .byte, Cond.fieldLink RX7 59 "AgedLog" "hand" "[B", Cond.fieldLink RX7 63 "AgedLog" "handLength" "I", Cond.fieldLink RX7 67 "AgedLog" "down" "Z", Cond.instanceMethod yX1_init, Cond.code yX1_init cX1_init 1 none, Cond.methodLink RX1 3 objectInit, Cond.constant RX1 9 (65536), Cond.fieldLink RX1 10 "AgedLog$Disk" "row" "[B", Cond.arrayClass .int, Cond.fieldLink RX1 16 "AgedLog$Disk" "tornTail" "[I"]
def wsL_law_r3 : List Cond := [Cond.fieldLink RX1 20 "AgedLog$Disk" "written" "I", Cond.fieldLink RX1 24 "AgedLog$Disk" "sectorsToCut" "I", Cond.fieldLink RX1 27 "AgedLog$Disk" "octetsToCut" "I", Cond.instanceMethod yX2_init, Cond.code yX2_init cX2_init 1 none, Cond.methodLink RX2 3 objectInit, Cond.fieldLink RX2 9 "AgedLog$Index" "segments" "[I", Cond.fieldLink RX2 15 "AgedLog$Index" "places" "[I", Cond.fieldLink RX2 18 "AgedLog$Index" "count" "I", Cond.methodLink RX7 25 yX3_init, Cond.instanceMethod yX3_init, Cond.code yX3_init cX3_init 2 none, Cond.methodLink RX3 3 objectInit, Cond.constant RX3 9 (65536), Cond.fieldLink RX3 10 "AgedLog$Log" "memory" "[B", Cond.fieldLink RX3 16 "AgedLog$Log" "states" "[I", Cond.arrayClass .boolean, Cond.fieldLink RX3 20 "AgedLog$Log" "hasRecords" "[Z", Cond.fieldLink RX3 24 "AgedLog$Log" "latestTimes" "[I", Cond.fieldLink RX3 27 "AgedLog$Log" "fresh" "[I", Cond.fieldLink RX3 30 "AgedLog$Log" "freshFrom" "[I", Cond.fieldLink RX3 33 "AgedLog$Log" "freshTo" "[I", Cond.fieldLink RX3 36 "AgedLog$Log" "freshCount" "I", Cond.fieldLink RX3 40 "AgedLog$Log" "open" "I"]
def wsL_law_r4 : List Cond := [Cond.fieldLink RX3 43 "AgedLog$Log" "place" "I", Cond.fieldLink RX3 46 "AgedLog$Log" "order" "I", Cond.fieldLink RX3 49 "AgedLog$Log" "nextSequence" "I", Cond.fieldLink RX3 52 "AgedLog$Log" "clock" "I", Cond.fieldLink RX3 55 "AgedLog$Log" "index" "LAgedLog$Index;", Cond.methodLink RX7 34 yX0_init, Cond.instanceMethod yX0_init, Cond.code yX0_init cX0_init 3 none, Cond.methodLink RX0 3 objectInit, Cond.fieldLink RX0 9 "AgedLog$Cleaner" "chosen" "[Z", Cond.fieldLink RX0 15 "AgedLog$Cleaner" "live" "[I", Cond.fieldLink RX0 19 "AgedLog$Cleaner" "aged" "[I", Cond.fieldLink RX0 22 "AgedLog$Cleaner" "agedCount" "I", Cond.fieldLink RX0 26 "AgedLog$Cleaner" "log" "LAgedLog$Log;", Cond.fieldLink RX0 30 "AgedLog$Cleaner" "index" "LAgedLog$Index;", Cond.methodLink RX7 43 yX6_init, Cond.instanceMethod yX6_init, Cond.code yX6_init cX6_init 4 none, Cond.methodLink RX6 3 objectInit, Cond.fieldLink RX6 9 "AgedLog$Regions" "row" "[B", Cond.fieldLink RX6 15 "AgedLog$Regions" "number" "I", Cond.fieldLink RX6 19 "AgedLog$Regions" "turn" "I", Cond.fieldLink RX6 22 "AgedLog$Regions" "drive" "LAgedLog$Disk;", Cond.fieldLink RX6 26 "AgedLog$Regions" "log" "LAgedLog$Log;"]
def wsL_law_r5 : List Cond := [Cond.fieldLink RX6 30 "AgedLog$Regions" "index" "LAgedLog$Index;", Cond.methodLink RX7 52 yX5_init, Cond.instanceMethod yX5_init, Cond.code yX5_init cX5_init 5 none, Cond.methodLink RX5 3 objectInit, Cond.fieldLink RX5 9 "AgedLog$Recovery" "drive" "LAgedLog$Disk;", Cond.fieldLink RX5 15 "AgedLog$Recovery" "log" "LAgedLog$Log;", Cond.fieldLink RX5 19 "AgedLog$Recovery" "index" "LAgedLog$Index;", Cond.fieldLink RX5 23 "AgedLog$Recovery" "regions" "LAgedLog$Regions;", Cond.methodLink RL 12 yX8_init, Cond.instanceMethod yX8_init, Cond.code yX8_init cX8_init 1 none, Cond.methodLink RX8 1 objectInit, Cond.constant RX8 7 (65536), Cond.fieldLink RX8 8 "AgedLogModel" "disk" "[B", Cond.fieldLink RX8 14 "AgedLogModel" "memory" "[B", Cond.fieldLink RX8 17 "AgedLogModel" "torn" "[Z", Cond.fieldLink RX8 21 "AgedLogModel" "state" "[I", Cond.fieldLink RX8 25 "AgedLogModel" "sequence" "I", Cond.fieldLink RX8 29 "AgedLogModel" "kSegment" "[I", Cond.fieldLink RX8 32 "AgedLogModel" "kAt" "[I", Cond.fieldLink RX8 35 "AgedLogModel" "dSegment" "[I", Cond.fieldLink RX8 38 "AgedLogModel" "dFrom" "[I", Cond.fieldLink RX8 41 "AgedLogModel" "dTo" "[I"]
def wsL_law_r6 : List Cond := [Cond.fieldLink RX8 44 "AgedLogModel" "hand" "[B", Cond.fieldLink RX8 47 "AgedLogModel" "made" "[B", Cond.fieldLink RX8 50 "AgedLogModel" "young" "[I", Cond.fieldLink RX8 53 "AgedLogModel" "value" "[B", Cond.fieldLink RX8 56 "AgedLogModel" "taken" "[Z", Cond.fieldLink RX8 59 "AgedLogModel" "sorted" "[I", Cond.fieldLink RX8 62 "AgedLogModel" "turn" "I", Cond.methodLink RL 15 yX7_feed, Cond.instanceMethod yX7_feed, Cond.selects RX7 yX7_feed yX7_feed, Cond.code yX7_feed cX7_feed 5 (some .int), Cond.methodLink RL 19 yX8_feed, Cond.instanceMethod yX8_feed, Cond.selects RX8 yX8_feed yX8_feed, Cond.code yX8_feed cX8_feed 5 (some .int), Cond.fieldLink RX8 65 "AgedLogModel" "code" "I", Cond.fieldLink RX8 129 "AgedLogModel" "handSize" "I", Cond.methodLink RX8 125 yX8_in, Cond.static yX8_in, Cond.code yX8_in cX8_in 3 (some .boolean), Cond.methodLink RL 20 yX7_put, Cond.instanceMethod yX7_put, Cond.selects RX7 yX7_put yX7_put, Cond.code yX7_put cX7_put 3 (some .int)]
def wsL_law_r7 : List Cond := [Cond.methodLink RX7 71 yX7_isKey, Cond.static yX7_isKey, Cond.code yX7_isKey cX7_isKey 1 (some .boolean), Cond.methodLink RX7 75 yX3_hasRoomFor, Cond.instanceMethod yX3_hasRoomFor, Cond.selects RX3 yX3_hasRoomFor yX3_hasRoomFor, Cond.code yX3_hasRoomFor cX3_hasRoomFor 2 (some .boolean), Cond.methodLink RX3 90 yX3_fits, Cond.instanceMethod yX3_fits, Cond.selects RX3 yX3_fits yX3_fits, Cond.code yX3_fits cX3_fits 2 (some .boolean), Cond.methodLink RX3 93 yX3_countFree, Cond.instanceMethod yX3_countFree, Cond.selects RX3 yX3_countFree yX3_countFree, Cond.code yX3_countFree cX3_countFree 3 (some .int), Cond.methodLink RX7 81 yX3_append, Cond.instanceMethod yX3_append, Cond.selects RX3 yX3_append yX3_append, Cond.code yX3_append cX3_append 9 (some .int), Cond.methodLink RX3 97 yX3_openNext, Cond.instanceMethod yX3_openNext, Cond.selects RX3 yX3_openNext yX3_openNext, Cond.code yX3_openNext cX3_openNext 3 none, Cond.methodLink RX3 124 yX3_leastFree]
def wsL_law_r8 : List Cond := [Cond.instanceMethod yX3_leastFree, Cond.selects RX3 yX3_leastFree yX3_leastFree, Cond.code yX3_leastFree cX3_leastFree 2 (some .int), Cond.methodLink RX3 127 yX3_use, Cond.instanceMethod yX3_use, Cond.selects RX3 yX3_use yX3_use, Cond.code yX3_use cX3_use 2 none, Cond.static yX7_isOfLog, Cond.code yX7_isOfLog cX7_isOfLog 1 (some .boolean), Cond.methodLink RX3 130 yX3_forgetTimes, Cond.instanceMethod yX3_forgetTimes, Cond.selects RX3 yX3_forgetTimes yX3_forgetTimes, Cond.code yX3_forgetTimes cX3_forgetTimes 2 none, Cond.methodLink RX3 133 yX4_clear, Cond.static yX4_clear, Cond.initialized RX4, Cond.code yX4_clear cX4_clear 4 none, Cond.methodLink RX4 7 yX4_isWithin, Cond.static yX4_isWithin, Cond.code yX4_isWithin cX4_isWithin 3 (some .boolean), Cond.methodLink RX3 100 yX4_setNumber, Cond.static yX4_setNumber, Cond.code yX4_setNumber cX4_setNumber 6 none, Cond.methodLink RX3 108 yX4_setSum]
def wsL_law_r9 : List Cond := [Cond.static yX4_setSum, Cond.code yX4_setSum cX4_setSum 3 none, Cond.methodLink RX4 20 yX4_sum, Cond.static yX4_sum, Cond.code yX4_sum cX4_sum 5 (some .int), Cond.constant RX4 19 (-1640531535), Cond.methodLink RX4 13 yJ6_rotateLeft_7cf53, Cond.static yJ6_rotateLeft_7cf53, Cond.initialized RJ6, Cond.code yJ6_rotateLeft_7cf53 cJ6_rotateLeft_7cf53 2 (some .int), Cond.methodLink RX4 24 yX4_setNumber, Cond.methodLink RX3 120 yX3_noteFresh, Cond.instanceMethod yX3_noteFresh, Cond.selects RX3 yX3_noteFresh yX3_noteFresh, Cond.code yX3_noteFresh cX3_noteFresh 3 none, Cond.methodLink RX3 104 yX4_copy, Cond.static yX4_copy, Cond.code yX4_copy cX4_copy 5 none, Cond.methodLink RX4 28 arraycopyName, Cond.native arraycopyName, Cond.static arraycopyName, Cond.initialized "java/lang/System", Cond.methodLink RX3 112 yX2_follow, Cond.instanceMethod yX2_follow]
def wsL_law_r10 : List Cond := [Cond.selects RX2 yX2_follow yX2_follow, Cond.code yX2_follow cX2_follow 5 none, Cond.methodLink RX3 116 yX3_noteTime, Cond.instanceMethod yX3_noteTime, Cond.selects RX3 yX3_noteTime yX3_noteTime, Cond.code yX3_noteTime cX3_noteTime 3 none, Cond.methodLink RL 24 yX8_put, Cond.instanceMethod yX8_put, Cond.selects RX8 yX8_put yX8_put, Cond.code yX8_put cX8_put 3 (some .int), Cond.fieldLink RX8 132 "AgedLogModel" "down" "Z", Cond.fieldLink RX8 140 "AgedLogModel" "clock" "I", Cond.methodLink RX8 118 yX8_opens, Cond.instanceMethod yX8_opens, Cond.selects RX8 yX8_opens yX8_opens, Cond.code yX8_opens cX8_opens 2 (some .boolean), Cond.fieldLink RX8 87 "AgedLogModel" "open" "I", Cond.fieldLink RX8 90 "AgedLogModel" "place" "I", Cond.methodLink RX8 136 yX8_frees, Cond.instanceMethod yX8_frees, Cond.selects RX8 yX8_frees yX8_frees, Cond.code yX8_frees cX8_frees 3 (some .int), Cond.methodLink RX8 143 yX8_record, Cond.instanceMethod yX8_record]
def wsL_law_r11 : List Cond := [Cond.selects RX8 yX8_record yX8_record, Cond.code yX8_record cX8_record 6 none, Cond.fieldLink RX8 69 "AgedLogModel" "size" "I", Cond.methodLink RX8 122 yX8_openNext, Cond.instanceMethod yX8_openNext, Cond.selects RX8 yX8_openNext yX8_openNext, Cond.code yX8_openNext cX8_openNext 3 none, Cond.fieldLink RX8 107 "AgedLogModel" "order" "I", Cond.methodLink RX8 72 yX8_at, Cond.static yX8_at, Cond.code yX8_at cX8_at 2 (some .int), Cond.methodLink RX8 110 yX8_octets, Cond.instanceMethod yX8_octets, Cond.selects RX8 yX8_octets yX8_octets, Cond.code yX8_octets cX8_octets 4 none, Cond.methodLink RX8 84 yX8_sum, Cond.static yX8_sum, Cond.code yX8_sum cX8_sum 6 (some .int), Cond.constant RX8 68 (-1640531535), Cond.methodLink RX8 114 yX8_came, Cond.instanceMethod yX8_came, Cond.selects RX8 yX8_came yX8_came, Cond.code yX8_came cX8_came 4 none, Cond.fieldLink RX8 104 "AgedLogModel" "dirty" "I"]
def wsL_law_r12 : List Cond := [Cond.methodLink RL 25 yX7_remove, Cond.instanceMethod yX7_remove, Cond.selects RX7 yX7_remove yX7_remove, Cond.code yX7_remove cX7_remove 2 (some .int), Cond.methodLink RX7 85 yX2_has, Cond.instanceMethod yX2_has, Cond.selects RX2 yX2_has yX2_has, Cond.code yX2_has cX2_has 2 (some .boolean), Cond.methodLink RL 28 yX8_remove, Cond.instanceMethod yX8_remove, Cond.selects RX8 yX8_remove yX8_remove, Cond.code yX8_remove cX8_remove 2 (some .int), Cond.methodLink RX8 147 yX8_none, Cond.instanceMethod yX8_none, Cond.selects RX8 yX8_none yX8_none, Cond.code yX8_none cX8_none 2 (some .boolean), Cond.methodLink RL 29 yX7_size, Cond.instanceMethod yX7_size, Cond.selects RX7 yX7_size yX7_size, Cond.code yX7_size cX7_size 2 (some .int), Cond.methodLink RX7 88 yX3_lengthOf, Cond.instanceMethod yX3_lengthOf, Cond.selects RX3 yX3_lengthOf yX3_lengthOf, Cond.code yX3_lengthOf cX3_lengthOf 2 (some .int)]
def wsL_law_r13 : List Cond := [Cond.methodLink RX3 75 yX2_addressOf, Cond.instanceMethod yX2_addressOf, Cond.selects RX2 yX2_addressOf yX2_addressOf, Cond.code yX2_addressOf cX2_addressOf 2 (some .int), Cond.methodLink RX3 69 yX4_number, Cond.static yX4_number, Cond.code yX4_number cX4_number 5 (some .int), Cond.methodLink RL 32 yX8_size, Cond.instanceMethod yX8_size, Cond.selects RX8 yX8_size yX8_size, Cond.code yX8_size cX8_size 2 (some .int), Cond.methodLink RX8 101 yX8_recordSize, Cond.instanceMethod yX8_recordSize, Cond.selects RX8 yX8_recordSize yX8_recordSize, Cond.code yX8_recordSize cX8_recordSize 2 (some .int), Cond.methodLink RL 33 yX7_value, Cond.instanceMethod yX7_value, Cond.selects RX7 yX7_value yX7_value, Cond.code yX7_value cX7_value 3 (some .int), Cond.methodLink RX7 95 yX2_addressOf, Cond.methodLink RX7 98 yX4_number, Cond.methodLink RL 37 yX8_value, Cond.instanceMethod yX8_value, Cond.selects RX8 yX8_value yX8_value]
def wsL_law_r14 : List Cond := [Cond.code yX8_value cX8_value 3 (some .int), Cond.methodLink RL 38 yX7_sync, Cond.instanceMethod yX7_sync, Cond.selects RX7 yX7_sync yX7_sync, Cond.code yX7_sync cX7_sync 2 (some .int), Cond.methodLink RX7 104 yX3_writeFresh, Cond.instanceMethod yX3_writeFresh, Cond.selects RX3 yX3_writeFresh yX3_writeFresh, Cond.code yX3_writeFresh cX3_writeFresh 5 (some .int), Cond.methodLink RX3 136 yX3_writeFreshOf, Cond.instanceMethod yX3_writeFreshOf, Cond.selects RX3 yX3_writeFreshOf yX3_writeFreshOf, Cond.code yX3_writeFreshOf cX3_writeFreshOf 8 (some .int), Cond.methodLink RX3 144 Lib.Math.max.name, Cond.static Lib.Math.max.name, Cond.initialized "java/lang/Math", Cond.code Lib.Math.max.name Lib.Math.max.code 2 (some .int), Cond.methodLink RX3 140 yX3_writeSector, Cond.instanceMethod yX3_writeSector, Cond.selects RX3 yX3_writeSector yX3_writeSector, Cond.code yX3_writeSector cX3_writeSector 6 (some .boolean), Cond.methodLink RX3 150 yX1_write, Cond.instanceMethod yX1_write, Cond.selects RX1 yX1_write yX1_write]
def wsL_law_r15 : List Cond := [Cond.code yX1_write cX1_write 7 (some .boolean), Cond.methodLink RX1 57 Lib.Math.max.name, Cond.methodLink RX1 60 yX4_copy, Cond.methodLink RL 42 yX8_sync, Cond.instanceMethod yX8_sync, Cond.selects RX8 yX8_sync yX8_sync, Cond.code yX8_sync cX8_sync 1 (some .int), Cond.methodLink RX8 163 yX8_syncAll, Cond.instanceMethod yX8_syncAll, Cond.selects RX8 yX8_syncAll yX8_syncAll, Cond.code yX8_syncAll cX8_syncAll 5 (some .int), Cond.methodLink RX8 159 yX8_write, Cond.instanceMethod yX8_write, Cond.selects RX8 yX8_write yX8_write, Cond.code yX8_write cX8_write 7 (some .boolean), Cond.fieldLink RX8 150 "AgedLogModel" "cutAt" "I", Cond.fieldLink RX8 153 "AgedLogModel" "sectors" "I", Cond.fieldLink RX8 156 "AgedLogModel" "cutFirst" "I", Cond.methodLink RL 43 yX7_checkpoint, Cond.instanceMethod yX7_checkpoint, Cond.selects RX7 yX7_checkpoint yX7_checkpoint, Cond.code yX7_checkpoint cX7_checkpoint 1 (some .int), Cond.methodLink RX7 108 yX6_write, Cond.instanceMethod yX6_write]
def wsL_law_r16 : List Cond := [Cond.selects RX6 yX6_write yX6_write, Cond.code yX6_write cX6_write 3 (some .boolean), Cond.methodLink RX6 34 yX6_fillRow, Cond.instanceMethod yX6_fillRow, Cond.selects RX6 yX6_fillRow yX6_fillRow, Cond.code yX6_fillRow cX6_fillRow 3 (some .int), Cond.methodLink RX6 44 yJ7_fill_031fb, Cond.static yJ7_fill_031fb, Cond.initialized RJ7, Cond.code yJ7_fill_031fb cJ7_fill_031fb 4 none, Cond.methodLink RX6 50 yX4_setNumber, Cond.methodLink RX6 78 yX2_has, Cond.methodLink RX6 82 yX2_segmentOf, Cond.instanceMethod yX2_segmentOf, Cond.selects RX2 yX2_segmentOf yX2_segmentOf, Cond.code yX2_segmentOf cX2_segmentOf 2 (some .int), Cond.methodLink RX6 86 yX2_placeOf, Cond.instanceMethod yX2_placeOf, Cond.selects RX2 yX2_placeOf yX2_placeOf, Cond.code yX2_placeOf cX2_placeOf 2 (some .int), Cond.methodLink RX6 89 yX3_isUsed, Cond.instanceMethod yX3_isUsed, Cond.selects RX3 yX3_isUsed yX3_isUsed, Cond.code yX3_isUsed cX3_isUsed 2 (some .boolean)]
def wsL_law_r17 : List Cond := [Cond.methodLink RX6 92 yX4_setSum, Cond.methodLink RX6 38 yX1_write, Cond.methodLink RX7 112 yX3_freeSpent, Cond.instanceMethod yX3_freeSpent, Cond.selects RX3 yX3_freeSpent yX3_freeSpent, Cond.code yX3_freeSpent cX3_freeSpent 2 none, Cond.methodLink RL 46 yX8_checkpoint, Cond.instanceMethod yX8_checkpoint, Cond.selects RX8 yX8_checkpoint yX8_checkpoint, Cond.code yX8_checkpoint cX8_checkpoint 3 (some .int), Cond.fieldLink RX8 166 "AgedLogModel" "number" "I", Cond.methodLink RX8 168 yX8_keys, Cond.instanceMethod yX8_keys, Cond.selects RX8 yX8_keys yX8_keys, Cond.code yX8_keys cX8_keys 3 (some .int), Cond.methodLink RL 47 yX7_clean, Cond.instanceMethod yX7_clean, Cond.selects RX7 yX7_clean yX7_clean, Cond.code yX7_clean cX7_clean 2 (some .int), Cond.methodLink RX7 117 yX0_spend, Cond.instanceMethod yX0_spend, Cond.selects RX0 yX0_spend yX0_spend, Cond.code yX0_spend cX0_spend 4 (some .int), Cond.methodLink RX0 34 yX0_choose]
def wsL_law_r18 : List Cond := [Cond.instanceMethod yX0_choose, Cond.selects RX0 yX0_choose yX0_choose, Cond.code yX0_choose cX0_choose 4 (some .int), Cond.methodLink RX0 57 yX0_forgetChosen, Cond.instanceMethod yX0_forgetChosen, Cond.selects RX0 yX0_forgetChosen yX0_forgetChosen, Cond.code yX0_forgetChosen cX0_forgetChosen 2 none, Cond.methodLink RX0 60 yX0_weighLive, Cond.instanceMethod yX0_weighLive, Cond.selects RX0 yX0_weighLive yX0_weighLive, Cond.code yX0_weighLive cX0_weighLive 2 none, Cond.methodLink RX0 66 yJ7_fill_53178, Cond.static yJ7_fill_53178, Cond.code yJ7_fill_53178 cJ7_fill_53178 4 none, Cond.methodLink RX0 72 yX2_has, Cond.methodLink RX0 78 yX2_segmentOf, Cond.methodLink RX0 81 yX3_lengthOf, Cond.methodLink RX0 63 yX0_bestLeft, Cond.instanceMethod yX0_bestLeft, Cond.selects RX0 yX0_bestLeft yX0_bestLeft, Cond.code yX0_bestLeft cX0_bestLeft 4 (some .int), Cond.methodLink RX0 84 yX3_stateOf, Cond.instanceMethod yX3_stateOf, Cond.selects RX3 yX3_stateOf yX3_stateOf]
def wsL_law_r19 : List Cond := [Cond.code yX3_stateOf cX3_stateOf 2 (some .int), Cond.methodLink RX0 87 yX0_isWorthMore, Cond.instanceMethod yX0_isWorthMore, Cond.selects RX0 yX0_isWorthMore yX0_isWorthMore, Cond.code yX0_isWorthMore cX0_isWorthMore 7 (some .boolean), Cond.methodLink RX0 91 yX0_ageOf, Cond.instanceMethod yX0_ageOf, Cond.selects RX0 yX0_ageOf yX0_ageOf, Cond.code yX0_ageOf cX0_ageOf 2 (some .long), Cond.methodLink RX0 98 yX3_latestTimeIn, Cond.instanceMethod yX3_latestTimeIn, Cond.selects RX3 yX3_latestTimeIn yX3_latestTimeIn, Cond.code yX3_latestTimeIn cX3_latestTimeIn 2 (some .int), Cond.methodLink RX0 38 yX0_gatherAged, Cond.instanceMethod yX0_gatherAged, Cond.selects RX0 yX0_gatherAged yX0_gatherAged, Cond.code yX0_gatherAged cX0_gatherAged 2 none, Cond.methodLink RX0 101 yX0_insertAged, Cond.instanceMethod yX0_insertAged, Cond.selects RX0 yX0_insertAged yX0_insertAged, Cond.code yX0_insertAged cX0_insertAged 3 none, Cond.methodLink RX0 104 yX0_isOlder, Cond.instanceMethod yX0_isOlder, Cond.selects RX0 yX0_isOlder yX0_isOlder]
def wsL_law_r20 : List Cond := [Cond.code yX0_isOlder cX0_isOlder 5 (some .boolean), Cond.methodLink RX0 107 yX3_timeOf, Cond.instanceMethod yX3_timeOf, Cond.selects RX3 yX3_timeOf yX3_timeOf, Cond.code yX3_timeOf cX3_timeOf 2 (some .int), Cond.methodLink RX0 110 yX3_sequenceOf, Cond.instanceMethod yX3_sequenceOf, Cond.selects RX3 yX3_sequenceOf yX3_sequenceOf, Cond.code yX3_sequenceOf cX3_sequenceOf 2 (some .int), Cond.methodLink RX0 41 yX0_countWanted, Cond.instanceMethod yX0_countWanted, Cond.selects RX0 yX0_countWanted yX0_countWanted, Cond.code yX0_countWanted cX0_countWanted 5 (some .int), Cond.methodLink RX0 45 yX3_countFree, Cond.methodLink RX0 50 yX0_appendAgain, Cond.instanceMethod yX0_appendAgain, Cond.selects RX0 yX0_appendAgain yX0_appendAgain, Cond.code yX0_appendAgain cX0_appendAgain 3 none, Cond.methodLink RX0 119 yX2_addressOf, Cond.methodLink RX0 126 yX3_append, Cond.methodLink RX0 54 yX3_spend, Cond.instanceMethod yX3_spend, Cond.selects RX3 yX3_spend yX3_spend, Cond.code yX3_spend cX3_spend 2 none]
def wsL_law_r21 : List Cond := [Cond.methodLink RL 50 yX8_clean, Cond.instanceMethod yX8_clean, Cond.selects RX8 yX8_clean yX8_clean, Cond.code yX8_clean cX8_clean 12 (some .int), Cond.methodLink RX8 176 yX8_best, Cond.instanceMethod yX8_best, Cond.selects RX8 yX8_best yX8_best, Cond.code yX8_best cX8_best 11 (some .int), Cond.constantLong RX8 174 (1024), Cond.methodLink RX8 171 yX8_lives, Cond.instanceMethod yX8_lives, Cond.selects RX8 yX8_lives yX8_lives, Cond.code yX8_lives cX8_lives 4 (some .int), Cond.methodLink RX8 179 yX8_timeOf, Cond.instanceMethod yX8_timeOf, Cond.selects RX8 yX8_timeOf yX8_timeOf, Cond.code yX8_timeOf cX8_timeOf 2 (some .int), Cond.methodLink RX8 76 yX8_number, Cond.static yX8_number, Cond.code yX8_number cX8_number 5 (some .int), Cond.methodLink RX8 182 yX8_sequenceOf, Cond.instanceMethod yX8_sequenceOf, Cond.selects RX8 yX8_sequenceOf yX8_sequenceOf, Cond.code yX8_sequenceOf cX8_sequenceOf 2 (some .int)]
def wsL_law_r22 : List Cond := [Cond.methodLink RL 51 yX7_tick, Cond.instanceMethod yX7_tick, Cond.selects RX7 yX7_tick yX7_tick, Cond.code yX7_tick cX7_tick 2 (some .int), Cond.constant RX7 120 (100000), Cond.methodLink RL 54 yX8_tick, Cond.instanceMethod yX8_tick, Cond.selects RX8 yX8_tick yX8_tick, Cond.code yX8_tick cX8_tick 2 (some .int), Cond.constant RX8 185 (100000), Cond.methodLink RL 55 yX7_cut, Cond.instanceMethod yX7_cut, Cond.selects RX7 yX7_cut yX7_cut, Cond.code yX7_cut cX7_cut 3 (some .int), Cond.methodLink RX7 121 yX1_cutAt, Cond.instanceMethod yX1_cutAt, Cond.selects RX1 yX1_cutAt yX1_cutAt, Cond.code yX1_cutAt cX1_cutAt 3 none, Cond.methodLink RL 58 yX8_cut, Cond.instanceMethod yX8_cut, Cond.selects RX8 yX8_cut yX8_cut, Cond.code yX8_cut cX8_cut 3 (some .int), Cond.methodLink RL 59 yX7_start, Cond.instanceMethod yX7_start]
def wsL_law_r23 : List Cond := [Cond.selects RX7 yX7_start yX7_start, Cond.code yX7_start cX7_start 2 (some .int), Cond.methodLink RX7 125 yX5_takeCheckpoint, Cond.instanceMethod yX5_takeCheckpoint, Cond.selects RX5 yX5_takeCheckpoint yX5_takeCheckpoint, Cond.code yX5_takeCheckpoint cX5_takeCheckpoint 2 none, Cond.methodLink RX5 27 yX3_setAsAtFirst, Cond.instanceMethod yX3_setAsAtFirst, Cond.selects RX3 yX3_setAsAtFirst yX3_setAsAtFirst, Cond.code yX3_setAsAtFirst cX3_setAsAtFirst 1 none, Cond.methodLink RX3 59 yJ7_fill_53178, Cond.methodLink RX5 32 yX6_setAsAtFirst, Cond.instanceMethod yX6_setAsAtFirst, Cond.selects RX6 yX6_setAsAtFirst yX6_setAsAtFirst, Cond.code yX6_setAsAtFirst cX6_setAsAtFirst 1 none, Cond.methodLink RX5 35 yX2_clear, Cond.instanceMethod yX2_clear, Cond.selects RX2 yX2_clear yX2_clear, Cond.code yX2_clear cX2_clear 1 none, Cond.methodLink RX2 29 yJ7_fill_53178, Cond.methodLink RX5 40 yX6_newest, Cond.instanceMethod yX6_newest, Cond.selects RX6 yX6_newest yX6_newest, Cond.code yX6_newest cX6_newest 3 (some .int)]
def wsL_law_r24 : List Cond := [Cond.methodLink RX6 96 yX6_isRight, Cond.instanceMethod yX6_isRight, Cond.selects RX6 yX6_isRight yX6_isRight, Cond.code yX6_isRight cX6_isRight 4 (some .boolean), Cond.methodLink RX6 99 yX6_numberAt, Cond.instanceMethod yX6_numberAt, Cond.selects RX6 yX6_numberAt yX6_numberAt, Cond.code yX6_numberAt cX6_numberAt 4 (some .int), Cond.methodLink RX6 104 yX4_number, Cond.methodLink RX6 107 yX1_hasSum, Cond.instanceMethod yX1_hasSum, Cond.selects RX1 yX1_hasSum yX1_hasSum, Cond.code yX1_hasSum cX1_hasSum 3 (some .boolean), Cond.methodLink RX1 40 yX4_isWithin, Cond.methodLink RX1 30 yX4_number, Cond.methodLink RX1 44 yX4_sum, Cond.methodLink RX1 47 yX1_isTorn, Cond.instanceMethod yX1_isTorn, Cond.selects RX1 yX1_isTorn yX1_isTorn, Cond.code yX1_isTorn cX1_isTorn 8 (some .boolean), Cond.methodLink RX1 51 Lib.Math.min.name, Cond.static Lib.Math.min.name, Cond.code Lib.Math.min.name Lib.Math.min.code 2 (some .int), Cond.methodLink RX6 111 yX6_areNumbersRight]
def wsL_law_r25 : List Cond := [Cond.instanceMethod yX6_areNumbersRight, Cond.selects RX6 yX6_areNumbersRight yX6_areNumbersRight, Cond.code yX6_areNumbersRight cX6_areNumbersRight 2 (some .boolean), Cond.methodLink RX6 114 yX6_isOpenRight, Cond.instanceMethod yX6_isOpenRight, Cond.selects RX6 yX6_isOpenRight yX6_isOpenRight, Cond.code yX6_isOpenRight cX6_isOpenRight 4 (some .boolean), Cond.methodLink RX6 117 yX6_areKeysRight, Cond.instanceMethod yX6_areKeysRight, Cond.selects RX6 yX6_areKeysRight yX6_areKeysRight, Cond.code yX6_areKeysRight cX6_areKeysRight 8 (some .boolean), Cond.methodLink RX6 120 yX6_areFlagsRight, Cond.instanceMethod yX6_areFlagsRight, Cond.selects RX6 yX6_areFlagsRight yX6_areFlagsRight, Cond.code yX6_areFlagsRight cX6_areFlagsRight 4 (some .boolean), Cond.methodLink RX5 44 yX6_load, Cond.instanceMethod yX6_load, Cond.selects RX6 yX6_load yX6_load, Cond.code yX6_load cX6_load 4 none, Cond.methodLink RX6 129 yX6_countOf, Cond.instanceMethod yX6_countOf, Cond.selects RX6 yX6_countOf yX6_countOf, Cond.code yX6_countOf cX6_countOf 2 (some .int), Cond.methodLink RX6 136 Lib.Math.min.name]
def wsL_law_r26 : List Cond := [Cond.methodLink RX6 132 yX3_use, Cond.methodLink RX5 48 yX5_loadIndex, Cond.instanceMethod yX5_loadIndex, Cond.selects RX5 yX5_loadIndex yX5_loadIndex, Cond.code yX5_loadIndex cX5_loadIndex 7 none, Cond.methodLink RX5 51 yX6_countOf, Cond.methodLink RX5 55 yX6_keyOf, Cond.instanceMethod yX6_keyOf, Cond.selects RX6 yX6_keyOf yX6_keyOf, Cond.code yX6_keyOf cX6_keyOf 3 (some .int), Cond.methodLink RX5 59 yX6_segmentOf, Cond.instanceMethod yX6_segmentOf, Cond.selects RX6 yX6_segmentOf yX6_segmentOf, Cond.code yX6_segmentOf cX6_segmentOf 3 (some .int), Cond.methodLink RX5 62 yX6_placeOf, Cond.instanceMethod yX6_placeOf, Cond.selects RX6 yX6_placeOf yX6_placeOf, Cond.code yX6_placeOf cX6_placeOf 3 (some .int), Cond.methodLink RX5 65 yX5_isPutOf, Cond.instanceMethod yX5_isPutOf, Cond.selects RX5 yX5_isPutOf yX5_isPutOf, Cond.code yX5_isPutOf cX5_isPutOf 5 (some .boolean), Cond.methodLink RX5 73 yX5_rightLength, Cond.instanceMethod yX5_rightLength]
def wsL_law_r27 : List Cond := [Cond.selects RX5 yX5_rightLength yX5_rightLength, Cond.code yX5_rightLength cX5_rightLength 7 (some .int), Cond.methodLink RX5 83 yX5_kindAt, Cond.instanceMethod yX5_kindAt, Cond.selects RX5 yX5_kindAt yX5_kindAt, Cond.code yX5_kindAt cX5_kindAt 3 (some .int), Cond.methodLink RX5 122 yX4_number, Cond.methodLink RX5 145 yX5_valueLengthAt, Cond.instanceMethod yX5_valueLengthAt, Cond.selects RX5 yX5_valueLengthAt yX5_valueLengthAt, Cond.code yX5_valueLengthAt cX5_valueLengthAt 3 (some .int), Cond.methodLink RX5 86 yX5_keyAt, Cond.instanceMethod yX5_keyAt, Cond.selects RX5 yX5_keyAt yX5_keyAt, Cond.code yX5_keyAt cX5_keyAt 3 (some .int), Cond.methodLink RX5 131 yX1_hasSum, Cond.methodLink RX5 76 yX3_isUsed, Cond.methodLink RX5 80 yX5_endOf, Cond.instanceMethod yX5_endOf, Cond.selects RX5 yX5_endOf yX5_endOf, Cond.code yX5_endOf cX5_endOf 2 (some .int), Cond.methodLink RX5 69 yX2_follow, Cond.methodLink RX7 128 yX5_goThrough, Cond.instanceMethod yX5_goThrough]
def wsL_law_r28 : List Cond := [Cond.selects RX5 yX5_goThrough yX5_goThrough, Cond.code yX5_goThrough cX5_goThrough 2 (some .int), Cond.methodLink RX5 96 yX5_findNext, Cond.instanceMethod yX5_findNext, Cond.selects RX5 yX5_findNext yX5_findNext, Cond.code yX5_findNext cX5_findNext 2 (some .boolean), Cond.methodLink RX5 103 yX5_isNext, Cond.instanceMethod yX5_isNext, Cond.selects RX5 yX5_isNext yX5_isNext, Cond.code yX5_isNext cX5_isNext 4 (some .boolean), Cond.methodLink RX5 107 yX5_hasNextHead, Cond.instanceMethod yX5_hasNextHead, Cond.selects RX5 yX5_hasNextHead yX5_hasNextHead, Cond.code yX5_hasNextHead cX5_hasNextHead 3 (some .boolean), Cond.methodLink RX5 110 yX3_use, Cond.methodLink RX5 100 yX5_followRecord, Cond.instanceMethod yX5_followRecord, Cond.selects RX5 yX5_followRecord yX5_followRecord, Cond.code yX5_followRecord cX5_followRecord 3 none, Cond.methodLink RX5 140 Lib.Math.max.name, Cond.methodLink RX5 137 yX5_timeAt, Cond.instanceMethod yX5_timeAt, Cond.selects RX5 yX5_timeAt yX5_timeAt, Cond.code yX5_timeAt cX5_timeAt 3 (some .int)]
def wsL_law_r29 : List Cond := [Cond.methodLink RX7 132 yX5_fillMemory, Cond.instanceMethod yX5_fillMemory, Cond.selects RX5 yX5_fillMemory yX5_fillMemory, Cond.code yX5_fillMemory cX5_fillMemory 2 none, Cond.methodLink RX5 148 yX3_loadMemory, Cond.instanceMethod yX3_loadMemory, Cond.selects RX3 yX3_loadMemory yX3_loadMemory, Cond.code yX3_loadMemory cX3_loadMemory 4 none, Cond.methodLink RX3 156 yX3_isUsed, Cond.methodLink RX5 152 yX3_forgetTimes, Cond.methodLink RX5 155 yX5_readTimesOf, Cond.instanceMethod yX5_readTimesOf, Cond.selects RX5 yX5_readTimesOf yX5_readTimesOf, Cond.code yX5_readTimesOf cX5_readTimesOf 5 none, Cond.methodLink RX5 158 yX3_noteTime, Cond.methodLink RL 62 yX8_start, Cond.instanceMethod yX8_start, Cond.selects RX8 yX8_start yX8_start, Cond.code yX8_start cX8_start 8 (some .int), Cond.methodLink RX8 189 yX8_isRight, Cond.instanceMethod yX8_isRight, Cond.selects RX8 yX8_isRight yX8_isRight, Cond.code yX8_isRight cX8_isRight 11 (some .boolean), Cond.methodLink RX8 80 yX8_isTorn]
def wsL_law_r30 : List Cond := [Cond.instanceMethod yX8_isTorn, Cond.selects RX8 yX8_isTorn yX8_isTorn, Cond.code yX8_isTorn cX8_isTorn 5 (some .boolean), Cond.methodLink RX8 192 yX8_load, Cond.instanceMethod yX8_load, Cond.selects RX8 yX8_load yX8_load, Cond.code yX8_load cX8_load 9 none, Cond.methodLink RX8 93 yX8_endOf, Cond.instanceMethod yX8_endOf, Cond.selects RX8 yX8_endOf yX8_endOf, Cond.code yX8_endOf cX8_endOf 2 (some .int), Cond.methodLink RX8 97 yX8_right, Cond.instanceMethod yX8_right, Cond.selects RX8 yX8_right yX8_right, Cond.code yX8_right cX8_right 8 (some .int), Cond.methodLink RX8 186 yX8_counts, Cond.instanceMethod yX8_counts, Cond.selects RX8 yX8_counts yX8_counts, Cond.code yX8_counts cX8_counts 3 (some .boolean), Cond.methodLink RX8 196 yX8_goesOn, Cond.instanceMethod yX8_goesOn, Cond.selects RX8 yX8_goesOn yX8_goesOn, Cond.code yX8_goesOn cX8_goesOn 4 (some .boolean), Cond.methodLink RX8 200 yX8_standing]
def wsL_law_r31 : List Cond := [Cond.instanceMethod yX8_standing, Cond.selects RX8 yX8_standing yX8_standing, Cond.code yX8_standing cX8_standing 6 (some .int), Cond.methodLink RL 63 yX7_disk, Cond.instanceMethod yX7_disk, Cond.selects RX7 yX7_disk yX7_disk, Cond.code yX7_disk cX7_disk 3 (some .int), Cond.methodLink RX7 135 yX7_isOctet, Cond.static yX7_isOctet, Cond.code yX7_isOctet cX7_isOctet 2 (some .boolean), Cond.methodLink RL 66 yX8_disk, Cond.instanceMethod yX8_disk, Cond.selects RX8 yX8_disk yX8_disk, Cond.code yX8_disk cX8_disk 3 (some .int), Cond.methodLink RL 67 yX7_poke, Cond.instanceMethod yX7_poke, Cond.selects RX7 yX7_poke yX7_poke, Cond.code yX7_poke cX7_poke 4 (some .int), Cond.methodLink RX7 142 yX1_flip, Cond.instanceMethod yX1_flip, Cond.selects RX1 yX1_flip yX1_flip, Cond.code yX1_flip cX1_flip 3 (some .int), Cond.methodLink RX1 36 yX4_setNumber, Cond.methodLink RL 71 yX8_poke]
def wsL_law_r32 : List Cond := [Cond.instanceMethod yX8_poke, Cond.selects RX8 yX8_poke yX8_poke, Cond.code yX8_poke cX8_poke 4 (some .int), Cond.methodLink RL 72 yX7_segment, Cond.instanceMethod yX7_segment, Cond.selects RX7 yX7_segment yX7_segment, Cond.code yX7_segment cX7_segment 3 (some .int), Cond.methodLink RX7 146 yX7_isOfLog, Cond.methodLink RX7 149 yX3_stateOf, Cond.methodLink RX7 152 yX3_isUsed, Cond.methodLink RX7 155 yX3_liveIn, Cond.instanceMethod yX3_liveIn, Cond.selects RX3 yX3_liveIn yX3_liveIn, Cond.code yX3_liveIn cX3_liveIn 4 (some .int), Cond.methodLink RX3 81 yX2_has, Cond.methodLink RX3 84 yX2_segmentOf, Cond.methodLink RX3 87 yX3_lengthOf, Cond.methodLink RX7 158 yX3_latestTimeIn, Cond.methodLink RX7 161 yX3_orderOf, Cond.instanceMethod yX3_orderOf, Cond.selects RX3 yX3_orderOf yX3_orderOf, Cond.code yX3_orderOf cX3_orderOf 2 (some .int), Cond.methodLink RL 75 yX8_segment, Cond.instanceMethod yX8_segment]
def wsL_law_r33 : List Cond := [Cond.selects RX8 yX8_segment yX8_segment, Cond.code yX8_segment cX8_segment 3 (some .int), Cond.methodLink RL 76 yX7_where, Cond.instanceMethod yX7_where, Cond.selects RX7 yX7_where yX7_where, Cond.code yX7_where cX7_where 3 (some .int), Cond.methodLink RX7 164 yX2_segmentOf, Cond.methodLink RX7 167 yX2_placeOf, Cond.methodLink RX7 170 yX3_sequenceOf, Cond.methodLink RX7 173 yX3_timeOf, Cond.methodLink RL 79 yX8_where, Cond.instanceMethod yX8_where, Cond.selects RX8 yX8_where yX8_where, Cond.code yX8_where cX8_where 3 (some .int), Cond.methodLink RL 80 yX7_told, Cond.instanceMethod yX7_told, Cond.selects RX7 yX7_told yX7_told, Cond.code yX7_told cX7_told 2 (some .int), Cond.methodLink RX7 179 yX7_toldWhileUp, Cond.instanceMethod yX7_toldWhileUp, Cond.selects RX7 yX7_toldWhileUp yX7_toldWhileUp, Cond.code yX7_toldWhileUp cX7_toldWhileUp 2 (some .int), Cond.methodLink RX7 191 yX3_countFree, Cond.methodLink RX7 197 yX3_countFreshOctets]
def wsL_law_r34 : List Cond := [Cond.instanceMethod yX3_countFreshOctets, Cond.selects RX3 yX3_countFreshOctets yX3_countFreshOctets, Cond.code yX3_countFreshOctets cX3_countFreshOctets 3 (some .int), Cond.methodLink RL 83 yX8_told, Cond.instanceMethod yX8_told, Cond.selects RX8 yX8_told yX8_told, Cond.code yX8_told cX8_told 4 (some .int)]
end
section
def wsL_law : List Cond := (wsL_law_r1 ++ (wsL_law_r2 ++ (wsL_law_r3 ++ (wsL_law_r4 ++ (wsL_law_r5 ++ (wsL_law_r6 ++ (wsL_law_r7 ++ (wsL_law_r8 ++ (wsL_law_r9 ++ (wsL_law_r10 ++ (wsL_law_r11 ++ (wsL_law_r12 ++ (wsL_law_r13 ++ (wsL_law_r14 ++ (wsL_law_r15 ++ (wsL_law_r16 ++ (wsL_law_r17 ++ (wsL_law_r18 ++ (wsL_law_r19 ++ (wsL_law_r20 ++ (wsL_law_r21 ++ (wsL_law_r22 ++ (wsL_law_r23 ++ (wsL_law_r24 ++ (wsL_law_r25 ++ (wsL_law_r26 ++ (wsL_law_r27 ++ (wsL_law_r28 ++ (wsL_law_r29 ++ (wsL_law_r30 ++ (wsL_law_r31 ++ (wsL_law_r32 ++ (wsL_law_r33 ++ wsL_law_r34))))))))))))))))))))))))))))))))) ++ wsX70 ++ wsX80 ++ wsX10 ++ wsX20 ++ wsX30 ++ wsX00 ++ wsX60 ++ wsX50 ++ ([] : List Cond)
theorem lin_S : ∀ w ∈ k2_sels lw_privs, w ∈ lw_tbl := fun _ h => List.mem_append_left _ h
theorem lin_T1 : ∀ w ∈ tables_1_1, w ∈ lw_tbl := fun _ h => List.mem_append_right _ (List.mem_append_left _ h)
theorem lin_T2 : ∀ w ∈ tables_1_2, w ∈ lw_tbl := fun _ h => List.mem_append_right _ (List.mem_append_right _ (List.mem_append_left _ h))
theorem lin_T3 : ∀ w ∈ tables_1_3, w ∈ lw_tbl := fun _ h => List.mem_append_right _ (List.mem_append_right _ (List.mem_append_right _ (List.mem_append_left _ h)))
theorem lin_T4 : ∀ w ∈ tables_1_4, w ∈ lw_tbl := fun _ h => List.mem_append_right _ (List.mem_append_right _ (List.mem_append_right _ (List.mem_append_right _ (List.mem_append_left _ h))))
theorem lin_T5 : ∀ w ∈ tables_1_5, w ∈ lw_tbl := fun _ h => List.mem_append_right _ (List.mem_append_right _ (List.mem_append_right _ (List.mem_append_right _ (List.mem_append_right _ (h)))))
set_option maxRecDepth 20000 in
theorem lin_r1 : ∀ w ∈ wsL_law_r1, w ∈ lw_tbl := List.forall_mem_cons.mpr ⟨lin_T1 _ (List.mem_of_getElem? (i := 14) rfl), List.forall_mem_cons.mpr ⟨lin_T1 _ (List.mem_of_getElem? (i := 15) rfl), List.forall_mem_cons.mpr ⟨lin_T1 _ (List.mem_of_getElem? (i := 1) rfl), List.forall_mem_cons.mpr ⟨lin_T4 _ (List.mem_of_getElem? (i := 8) rfl), List.forall_mem_cons.mpr ⟨lin_T4 _ (List.mem_of_getElem? (i := 9) rfl), List.forall_mem_cons.mpr ⟨lin_T1 _ (List.mem_of_getElem? (i := 8) rfl), List.forall_mem_cons.mpr ⟨lin_T5 _ (List.mem_of_getElem? (i := 37) rfl), List.forall_mem_cons.mpr ⟨lin_T1 _ (List.mem_of_getElem? (i := 16) rfl), List.forall_mem_cons.mpr ⟨lin_T1 _ (List.mem_of_getElem? (i := 17) rfl), List.forall_mem_cons.mpr ⟨lin_T1 _ (List.mem_of_getElem? (i := 18) rfl), List.forall_mem_cons.mpr ⟨lin_T1 _ (List.mem_of_getElem? (i := 19) rfl), List.forall_mem_cons.mpr ⟨lin_T1 _ (List.mem_of_getElem? (i := 20) rfl), List.forall_mem_cons.mpr ⟨lin_T1 _ (List.mem_of_getElem? (i := 21) rfl), List.forall_mem_cons.mpr ⟨lin_T1 _ (List.mem_of_getElem? (i := 22) rfl), List.forall_mem_cons.mpr ⟨lin_T1 _ (List.mem_of_getElem? (i := 23) rfl), List.forall_mem_cons.mpr ⟨lin_T1 _ (List.mem_of_getElem? (i := 2) rfl), List.forall_mem_cons.mpr ⟨lin_T1 _ (List.mem_of_getElem? (i := 210) rfl), List.forall_mem_cons.mpr ⟨lin_T1 _ (List.mem_of_getElem? (i := 52) rfl), List.forall_mem_cons.mpr ⟨lin_T1 _ (List.mem_of_getElem? (i := 53) rfl), List.forall_mem_cons.mpr ⟨lin_T1 _ (List.mem_of_getElem? (i := 3) rfl), List.forall_mem_cons.mpr ⟨lin_T1 _ (List.mem_of_getElem? (i := 211) rfl), List.forall_mem_cons.mpr ⟨lin_T1 _ (List.mem_of_getElem? (i := 70) rfl), List.forall_mem_cons.mpr ⟨lin_T1 _ (List.mem_of_getElem? (i := 71) rfl), List.forall_mem_cons.mpr ⟨lin_T1 _ (List.mem_of_getElem? (i := 4) rfl), fun _ h => absurd h List.not_mem_nil⟩⟩⟩⟩⟩⟩⟩⟩⟩⟩⟩⟩⟩⟩⟩⟩⟩⟩⟩⟩⟩⟩⟩⟩
set_option maxRecDepth 20000 in
theorem lin_r2 : ∀ w ∈ wsL_law_r2, w ∈ lw_tbl := List.forall_mem_cons.mpr ⟨lin_T1 _ (List.mem_of_getElem? (i := 212) rfl), List.forall_mem_cons.mpr ⟨lin_T1 _ (List.mem_of_getElem? (i := 140) rfl), List.forall_mem_cons.mpr ⟨lin_T1 _ (List.mem_of_getElem? (i := 141) rfl), List.forall_mem_cons.mpr ⟨lin_T1 _ (List.mem_of_getElem? (i := 5) rfl), List.forall_mem_cons.mpr ⟨lin_T1 _ (List.mem_of_getElem? (i := 213) rfl), List.forall_mem_cons.mpr ⟨lin_T1 _ (List.mem_of_getElem? (i := 165) rfl), List.forall_mem_cons.mpr ⟨lin_T1 _ (List.mem_of_getElem? (i := 166) rfl), List.forall_mem_cons.mpr ⟨lin_T1 _ (List.mem_of_getElem? (i := 6) rfl), List.forall_mem_cons.mpr ⟨lin_T1 _ (List.mem_of_getElem? (i := 214) rfl), List.forall_mem_cons.mpr ⟨lin_T1 _ (List.mem_of_getElem? (i := 191) rfl), List.forall_mem_cons.mpr ⟨lin_T1 _ (List.mem_of_getElem? (i := 192) rfl), List.forall_mem_cons.mpr ⟨lin_T1 _ (List.mem_of_getElem? (i := 7) rfl), List.forall_mem_cons.mpr ⟨lin_T1 _ (List.mem_of_getElem? (i := 215) rfl), List.forall_mem_cons.mpr ⟨lin_T1 _ (List.mem_of_getElem? (i := 50) rfl), List.forall_mem_cons.mpr ⟨lin_T1 _ (List.mem_of_getElem? (i := 216) rfl), List.forall_mem_cons.mpr ⟨lin_T1 _ (List.mem_of_getElem? (i := 217) rfl), List.forall_mem_cons.mpr ⟨lin_T1 _ (List.mem_of_getElem? (i := 218) rfl), List.forall_mem_cons.mpr ⟨lin_T1 _ (List.mem_of_getElem? (i := 25) rfl), List.forall_mem_cons.mpr ⟨lin_T1 _ (List.mem_of_getElem? (i := 26) rfl), List.forall_mem_cons.mpr ⟨lin_T1 _ (List.mem_of_getElem? (i := 27) rfl), List.forall_mem_cons.mpr ⟨lin_T1 _ (List.mem_of_getElem? (i := 28) rfl), List.forall_mem_cons.mpr ⟨lin_T1 _ (List.mem_of_getElem? (i := 29) rfl), List.forall_mem_cons.mpr ⟨lin_T1 _ (List.mem_of_getElem? (i := 51) rfl), List.forall_mem_cons.mpr ⟨lin_T1 _ (List.mem_of_getElem? (i := 34) rfl), fun _ h => absurd h List.not_mem_nil⟩⟩⟩⟩⟩⟩⟩⟩⟩⟩⟩⟩⟩⟩⟩⟩⟩⟩⟩⟩⟩⟩⟩⟩
set_option maxRecDepth 20000 in
theorem lin_r3 : ∀ w ∈ wsL_law_r3, w ∈ lw_tbl := List.forall_mem_cons.mpr ⟨lin_T1 _ (List.mem_of_getElem? (i := 35) rfl), List.forall_mem_cons.mpr ⟨lin_T1 _ (List.mem_of_getElem? (i := 37) rfl), List.forall_mem_cons.mpr ⟨lin_T1 _ (List.mem_of_getElem? (i := 38) rfl), List.forall_mem_cons.mpr ⟨lin_T1 _ (List.mem_of_getElem? (i := 55) rfl), List.forall_mem_cons.mpr ⟨lin_T1 _ (List.mem_of_getElem? (i := 56) rfl), List.forall_mem_cons.mpr ⟨lin_T1 _ (List.mem_of_getElem? (i := 57) rfl), List.forall_mem_cons.mpr ⟨lin_T1 _ (List.mem_of_getElem? (i := 58) rfl), List.forall_mem_cons.mpr ⟨lin_T1 _ (List.mem_of_getElem? (i := 59) rfl), List.forall_mem_cons.mpr ⟨lin_T1 _ (List.mem_of_getElem? (i := 60) rfl), List.forall_mem_cons.mpr ⟨lin_T1 _ (List.mem_of_getElem? (i := 72) rfl), List.forall_mem_cons.mpr ⟨lin_T1 _ (List.mem_of_getElem? (i := 73) rfl), List.forall_mem_cons.mpr ⟨lin_T1 _ (List.mem_of_getElem? (i := 74) rfl), List.forall_mem_cons.mpr ⟨lin_T1 _ (List.mem_of_getElem? (i := 75) rfl), List.forall_mem_cons.mpr ⟨lin_T1 _ (List.mem_of_getElem? (i := 76) rfl), List.forall_mem_cons.mpr ⟨lin_T1 _ (List.mem_of_getElem? (i := 78) rfl), List.forall_mem_cons.mpr ⟨lin_T1 _ (List.mem_of_getElem? (i := 81) rfl), List.forall_mem_cons.mpr ⟨lin_T1 _ (List.mem_of_getElem? (i := 139) rfl), List.forall_mem_cons.mpr ⟨lin_T1 _ (List.mem_of_getElem? (i := 82) rfl), List.forall_mem_cons.mpr ⟨lin_T1 _ (List.mem_of_getElem? (i := 83) rfl), List.forall_mem_cons.mpr ⟨lin_T1 _ (List.mem_of_getElem? (i := 84) rfl), List.forall_mem_cons.mpr ⟨lin_T1 _ (List.mem_of_getElem? (i := 85) rfl), List.forall_mem_cons.mpr ⟨lin_T1 _ (List.mem_of_getElem? (i := 86) rfl), List.forall_mem_cons.mpr ⟨lin_T1 _ (List.mem_of_getElem? (i := 87) rfl), List.forall_mem_cons.mpr ⟨lin_T1 _ (List.mem_of_getElem? (i := 88) rfl), fun _ h => absurd h List.not_mem_nil⟩⟩⟩⟩⟩⟩⟩⟩⟩⟩⟩⟩⟩⟩⟩⟩⟩⟩⟩⟩⟩⟩⟩⟩
set_option maxRecDepth 20000 in
theorem lin_r4 : ∀ w ∈ wsL_law_r4, w ∈ lw_tbl := List.forall_mem_cons.mpr ⟨lin_T1 _ (List.mem_of_getElem? (i := 93) rfl), List.forall_mem_cons.mpr ⟨lin_T1 _ (List.mem_of_getElem? (i := 98) rfl), List.forall_mem_cons.mpr ⟨lin_T1 _ (List.mem_of_getElem? (i := 101) rfl), List.forall_mem_cons.mpr ⟨lin_T1 _ (List.mem_of_getElem? (i := 105) rfl), List.forall_mem_cons.mpr ⟨lin_T1 _ (List.mem_of_getElem? (i := 77) rfl), List.forall_mem_cons.mpr ⟨lin_T1 _ (List.mem_of_getElem? (i := 142) rfl), List.forall_mem_cons.mpr ⟨lin_T1 _ (List.mem_of_getElem? (i := 143) rfl), List.forall_mem_cons.mpr ⟨lin_T1 _ (List.mem_of_getElem? (i := 144) rfl), List.forall_mem_cons.mpr ⟨lin_T1 _ (List.mem_of_getElem? (i := 145) rfl), List.forall_mem_cons.mpr ⟨lin_T1 _ (List.mem_of_getElem? (i := 148) rfl), List.forall_mem_cons.mpr ⟨lin_T1 _ (List.mem_of_getElem? (i := 149) rfl), List.forall_mem_cons.mpr ⟨lin_T1 _ (List.mem_of_getElem? (i := 150) rfl), List.forall_mem_cons.mpr ⟨lin_T1 _ (List.mem_of_getElem? (i := 151) rfl), List.forall_mem_cons.mpr ⟨lin_T1 _ (List.mem_of_getElem? (i := 146) rfl), List.forall_mem_cons.mpr ⟨lin_T1 _ (List.mem_of_getElem? (i := 147) rfl), List.forall_mem_cons.mpr ⟨lin_T1 _ (List.mem_of_getElem? (i := 167) rfl), List.forall_mem_cons.mpr ⟨lin_T1 _ (List.mem_of_getElem? (i := 168) rfl), List.forall_mem_cons.mpr ⟨lin_T1 _ (List.mem_of_getElem? (i := 169) rfl), List.forall_mem_cons.mpr ⟨lin_T1 _ (List.mem_of_getElem? (i := 170) rfl), List.forall_mem_cons.mpr ⟨lin_T1 _ (List.mem_of_getElem? (i := 174) rfl), List.forall_mem_cons.mpr ⟨lin_T1 _ (List.mem_of_getElem? (i := 175) rfl), List.forall_mem_cons.mpr ⟨lin_T1 _ (List.mem_of_getElem? (i := 177) rfl), List.forall_mem_cons.mpr ⟨lin_T1 _ (List.mem_of_getElem? (i := 171) rfl), List.forall_mem_cons.mpr ⟨lin_T1 _ (List.mem_of_getElem? (i := 172) rfl), fun _ h => absurd h List.not_mem_nil⟩⟩⟩⟩⟩⟩⟩⟩⟩⟩⟩⟩⟩⟩⟩⟩⟩⟩⟩⟩⟩⟩⟩⟩
set_option maxRecDepth 20000 in
theorem lin_r5 : ∀ w ∈ wsL_law_r5, w ∈ lw_tbl := List.forall_mem_cons.mpr ⟨lin_T1 _ (List.mem_of_getElem? (i := 173) rfl), List.forall_mem_cons.mpr ⟨lin_T1 _ (List.mem_of_getElem? (i := 193) rfl), List.forall_mem_cons.mpr ⟨lin_T1 _ (List.mem_of_getElem? (i := 194) rfl), List.forall_mem_cons.mpr ⟨lin_T1 _ (List.mem_of_getElem? (i := 195) rfl), List.forall_mem_cons.mpr ⟨lin_T1 _ (List.mem_of_getElem? (i := 196) rfl), List.forall_mem_cons.mpr ⟨lin_T1 _ (List.mem_of_getElem? (i := 197) rfl), List.forall_mem_cons.mpr ⟨lin_T1 _ (List.mem_of_getElem? (i := 198) rfl), List.forall_mem_cons.mpr ⟨lin_T1 _ (List.mem_of_getElem? (i := 199) rfl), List.forall_mem_cons.mpr ⟨lin_T1 _ (List.mem_of_getElem? (i := 200) rfl), List.forall_mem_cons.mpr ⟨lin_T4 _ (List.mem_of_getElem? (i := 10) rfl), List.forall_mem_cons.mpr ⟨lin_T4 _ (List.mem_of_getElem? (i := 11) rfl), List.forall_mem_cons.mpr ⟨lin_T4 _ (List.mem_of_getElem? (i := 12) rfl), List.forall_mem_cons.mpr ⟨lin_T4 _ (List.mem_of_getElem? (i := 13) rfl), List.forall_mem_cons.mpr ⟨lin_T4 _ (List.mem_of_getElem? (i := 14) rfl), List.forall_mem_cons.mpr ⟨lin_T4 _ (List.mem_of_getElem? (i := 17) rfl), List.forall_mem_cons.mpr ⟨lin_T4 _ (List.mem_of_getElem? (i := 18) rfl), List.forall_mem_cons.mpr ⟨lin_T4 _ (List.mem_of_getElem? (i := 19) rfl), List.forall_mem_cons.mpr ⟨lin_T4 _ (List.mem_of_getElem? (i := 20) rfl), List.forall_mem_cons.mpr ⟨lin_T4 _ (List.mem_of_getElem? (i := 24) rfl), List.forall_mem_cons.mpr ⟨lin_T4 _ (List.mem_of_getElem? (i := 31) rfl), List.forall_mem_cons.mpr ⟨lin_T4 _ (List.mem_of_getElem? (i := 32) rfl), List.forall_mem_cons.mpr ⟨lin_T4 _ (List.mem_of_getElem? (i := 34) rfl), List.forall_mem_cons.mpr ⟨lin_T4 _ (List.mem_of_getElem? (i := 35) rfl), List.forall_mem_cons.mpr ⟨lin_T4 _ (List.mem_of_getElem? (i := 36) rfl), fun _ h => absurd h List.not_mem_nil⟩⟩⟩⟩⟩⟩⟩⟩⟩⟩⟩⟩⟩⟩⟩⟩⟩⟩⟩⟩⟩⟩⟩⟩
set_option maxRecDepth 20000 in
theorem lin_r6 : ∀ w ∈ wsL_law_r6, w ∈ lw_tbl := List.forall_mem_cons.mpr ⟨lin_T4 _ (List.mem_of_getElem? (i := 37) rfl), List.forall_mem_cons.mpr ⟨lin_T4 _ (List.mem_of_getElem? (i := 39) rfl), List.forall_mem_cons.mpr ⟨lin_T4 _ (List.mem_of_getElem? (i := 41) rfl), List.forall_mem_cons.mpr ⟨lin_T4 _ (List.mem_of_getElem? (i := 42) rfl), List.forall_mem_cons.mpr ⟨lin_T4 _ (List.mem_of_getElem? (i := 43) rfl), List.forall_mem_cons.mpr ⟨lin_T4 _ (List.mem_of_getElem? (i := 44) rfl), List.forall_mem_cons.mpr ⟨lin_T4 _ (List.mem_of_getElem? (i := 27) rfl), List.forall_mem_cons.mpr ⟨lin_T1 _ (List.mem_of_getElem? (i := 238) rfl), List.forall_mem_cons.mpr ⟨lin_T1 _ (List.mem_of_getElem? (i := 239) rfl), List.forall_mem_cons.mpr ⟨lin_T2 _ (List.mem_of_getElem? (i := 0) rfl), List.forall_mem_cons.mpr ⟨lin_T2 _ (List.mem_of_getElem? (i := 1) rfl), List.forall_mem_cons.mpr ⟨lin_T4 _ (List.mem_of_getElem? (i := 106) rfl), List.forall_mem_cons.mpr ⟨lin_T4 _ (List.mem_of_getElem? (i := 107) rfl), List.forall_mem_cons.mpr ⟨lin_T4 _ (List.mem_of_getElem? (i := 108) rfl), List.forall_mem_cons.mpr ⟨lin_T4 _ (List.mem_of_getElem? (i := 109) rfl), List.forall_mem_cons.mpr ⟨lin_T4 _ (List.mem_of_getElem? (i := 15) rfl), List.forall_mem_cons.mpr ⟨lin_T4 _ (List.mem_of_getElem? (i := 38) rfl), List.forall_mem_cons.mpr ⟨lin_T4 _ (List.mem_of_getElem? (i := 110) rfl), List.forall_mem_cons.mpr ⟨lin_T4 _ (List.mem_of_getElem? (i := 111) rfl), List.forall_mem_cons.mpr ⟨lin_T4 _ (List.mem_of_getElem? (i := 112) rfl), List.forall_mem_cons.mpr ⟨lin_T2 _ (List.mem_of_getElem? (i := 2) rfl), List.forall_mem_cons.mpr ⟨lin_T2 _ (List.mem_of_getElem? (i := 3) rfl), List.forall_mem_cons.mpr ⟨lin_T2 _ (List.mem_of_getElem? (i := 4) rfl), List.forall_mem_cons.mpr ⟨lin_T2 _ (List.mem_of_getElem? (i := 5) rfl), fun _ h => absurd h List.not_mem_nil⟩⟩⟩⟩⟩⟩⟩⟩⟩⟩⟩⟩⟩⟩⟩⟩⟩⟩⟩⟩⟩⟩⟩⟩
set_option maxRecDepth 20000 in
theorem lin_r7 : ∀ w ∈ wsL_law_r7, w ∈ lw_tbl := List.forall_mem_cons.mpr ⟨lin_T2 _ (List.mem_of_getElem? (i := 6) rfl), List.forall_mem_cons.mpr ⟨lin_T2 _ (List.mem_of_getElem? (i := 7) rfl), List.forall_mem_cons.mpr ⟨lin_T2 _ (List.mem_of_getElem? (i := 8) rfl), List.forall_mem_cons.mpr ⟨lin_T2 _ (List.mem_of_getElem? (i := 9) rfl), List.forall_mem_cons.mpr ⟨lin_T2 _ (List.mem_of_getElem? (i := 10) rfl), List.forall_mem_cons.mpr ⟨lin_T2 _ (List.mem_of_getElem? (i := 11) rfl), List.forall_mem_cons.mpr ⟨lin_T2 _ (List.mem_of_getElem? (i := 12) rfl), List.forall_mem_cons.mpr ⟨lin_T2 _ (List.mem_of_getElem? (i := 13) rfl), List.forall_mem_cons.mpr ⟨lin_T2 _ (List.mem_of_getElem? (i := 14) rfl), List.forall_mem_cons.mpr ⟨lin_T2 _ (List.mem_of_getElem? (i := 15) rfl), List.forall_mem_cons.mpr ⟨lin_T2 _ (List.mem_of_getElem? (i := 16) rfl), List.forall_mem_cons.mpr ⟨lin_T2 _ (List.mem_of_getElem? (i := 17) rfl), List.forall_mem_cons.mpr ⟨lin_T2 _ (List.mem_of_getElem? (i := 18) rfl), List.forall_mem_cons.mpr ⟨lin_T2 _ (List.mem_of_getElem? (i := 19) rfl), List.forall_mem_cons.mpr ⟨lin_T2 _ (List.mem_of_getElem? (i := 20) rfl), List.forall_mem_cons.mpr ⟨lin_T2 _ (List.mem_of_getElem? (i := 21) rfl), List.forall_mem_cons.mpr ⟨lin_T2 _ (List.mem_of_getElem? (i := 22) rfl), List.forall_mem_cons.mpr ⟨lin_T2 _ (List.mem_of_getElem? (i := 23) rfl), List.forall_mem_cons.mpr ⟨lin_T2 _ (List.mem_of_getElem? (i := 24) rfl), List.forall_mem_cons.mpr ⟨lin_T2 _ (List.mem_of_getElem? (i := 25) rfl), List.forall_mem_cons.mpr ⟨lin_T2 _ (List.mem_of_getElem? (i := 27) rfl), List.forall_mem_cons.mpr ⟨lin_S _ (List.mem_of_getElem? (i := 0) rfl), List.forall_mem_cons.mpr ⟨lin_T2 _ (List.mem_of_getElem? (i := 28) rfl), List.forall_mem_cons.mpr ⟨lin_T2 _ (List.mem_of_getElem? (i := 29) rfl), fun _ h => absurd h List.not_mem_nil⟩⟩⟩⟩⟩⟩⟩⟩⟩⟩⟩⟩⟩⟩⟩⟩⟩⟩⟩⟩⟩⟩⟩⟩
set_option maxRecDepth 20000 in
theorem lin_r8 : ∀ w ∈ wsL_law_r8, w ∈ lw_tbl := List.forall_mem_cons.mpr ⟨lin_T2 _ (List.mem_of_getElem? (i := 31) rfl), List.forall_mem_cons.mpr ⟨lin_S _ (List.mem_of_getElem? (i := 1) rfl), List.forall_mem_cons.mpr ⟨lin_T2 _ (List.mem_of_getElem? (i := 32) rfl), List.forall_mem_cons.mpr ⟨lin_T2 _ (List.mem_of_getElem? (i := 33) rfl), List.forall_mem_cons.mpr ⟨lin_T2 _ (List.mem_of_getElem? (i := 34) rfl), List.forall_mem_cons.mpr ⟨lin_T2 _ (List.mem_of_getElem? (i := 35) rfl), List.forall_mem_cons.mpr ⟨lin_T2 _ (List.mem_of_getElem? (i := 36) rfl), List.forall_mem_cons.mpr ⟨lin_T2 _ (List.mem_of_getElem? (i := 38) rfl), List.forall_mem_cons.mpr ⟨lin_T2 _ (List.mem_of_getElem? (i := 39) rfl), List.forall_mem_cons.mpr ⟨lin_T2 _ (List.mem_of_getElem? (i := 40) rfl), List.forall_mem_cons.mpr ⟨lin_T2 _ (List.mem_of_getElem? (i := 41) rfl), List.forall_mem_cons.mpr ⟨lin_T2 _ (List.mem_of_getElem? (i := 42) rfl), List.forall_mem_cons.mpr ⟨lin_T2 _ (List.mem_of_getElem? (i := 43) rfl), List.forall_mem_cons.mpr ⟨lin_T2 _ (List.mem_of_getElem? (i := 44) rfl), List.forall_mem_cons.mpr ⟨lin_T2 _ (List.mem_of_getElem? (i := 45) rfl), List.forall_mem_cons.mpr ⟨lin_T1 _ (List.mem_of_getElem? (i := 9) rfl), List.forall_mem_cons.mpr ⟨lin_T2 _ (List.mem_of_getElem? (i := 46) rfl), List.forall_mem_cons.mpr ⟨lin_T2 _ (List.mem_of_getElem? (i := 47) rfl), List.forall_mem_cons.mpr ⟨lin_T2 _ (List.mem_of_getElem? (i := 48) rfl), List.forall_mem_cons.mpr ⟨lin_T2 _ (List.mem_of_getElem? (i := 49) rfl), List.forall_mem_cons.mpr ⟨lin_T2 _ (List.mem_of_getElem? (i := 50) rfl), List.forall_mem_cons.mpr ⟨lin_T2 _ (List.mem_of_getElem? (i := 51) rfl), List.forall_mem_cons.mpr ⟨lin_T2 _ (List.mem_of_getElem? (i := 52) rfl), List.forall_mem_cons.mpr ⟨lin_T2 _ (List.mem_of_getElem? (i := 53) rfl), fun _ h => absurd h List.not_mem_nil⟩⟩⟩⟩⟩⟩⟩⟩⟩⟩⟩⟩⟩⟩⟩⟩⟩⟩⟩⟩⟩⟩⟩⟩
set_option maxRecDepth 20000 in
theorem lin_r9 : ∀ w ∈ wsL_law_r9, w ∈ lw_tbl := List.forall_mem_cons.mpr ⟨lin_T2 _ (List.mem_of_getElem? (i := 54) rfl), List.forall_mem_cons.mpr ⟨lin_T2 _ (List.mem_of_getElem? (i := 55) rfl), List.forall_mem_cons.mpr ⟨lin_T2 _ (List.mem_of_getElem? (i := 56) rfl), List.forall_mem_cons.mpr ⟨lin_T2 _ (List.mem_of_getElem? (i := 57) rfl), List.forall_mem_cons.mpr ⟨lin_T2 _ (List.mem_of_getElem? (i := 58) rfl), List.forall_mem_cons.mpr ⟨lin_T2 _ (List.mem_of_getElem? (i := 62) rfl), List.forall_mem_cons.mpr ⟨lin_T2 _ (List.mem_of_getElem? (i := 59) rfl), List.forall_mem_cons.mpr ⟨lin_T2 _ (List.mem_of_getElem? (i := 60) rfl), List.forall_mem_cons.mpr ⟨lin_T1 _ (List.mem_of_getElem? (i := 10) rfl), List.forall_mem_cons.mpr ⟨lin_T2 _ (List.mem_of_getElem? (i := 61) rfl), List.forall_mem_cons.mpr ⟨lin_T2 _ (List.mem_of_getElem? (i := 63) rfl), List.forall_mem_cons.mpr ⟨lin_T2 _ (List.mem_of_getElem? (i := 64) rfl), List.forall_mem_cons.mpr ⟨lin_T2 _ (List.mem_of_getElem? (i := 66) rfl), List.forall_mem_cons.mpr ⟨lin_S _ (List.mem_of_getElem? (i := 2) rfl), List.forall_mem_cons.mpr ⟨lin_T2 _ (List.mem_of_getElem? (i := 67) rfl), List.forall_mem_cons.mpr ⟨lin_T2 _ (List.mem_of_getElem? (i := 68) rfl), List.forall_mem_cons.mpr ⟨lin_T2 _ (List.mem_of_getElem? (i := 69) rfl), List.forall_mem_cons.mpr ⟨lin_T2 _ (List.mem_of_getElem? (i := 70) rfl), List.forall_mem_cons.mpr ⟨lin_T2 _ (List.mem_of_getElem? (i := 71) rfl), List.forall_mem_cons.mpr ⟨lin_T2 _ (List.mem_of_getElem? (i := 73) rfl), List.forall_mem_cons.mpr ⟨lin_T2 _ (List.mem_of_getElem? (i := 72) rfl), List.forall_mem_cons.mpr ⟨lin_T1 _ (List.mem_of_getElem? (i := 11) rfl), List.forall_mem_cons.mpr ⟨lin_T2 _ (List.mem_of_getElem? (i := 74) rfl), List.forall_mem_cons.mpr ⟨lin_T2 _ (List.mem_of_getElem? (i := 75) rfl), fun _ h => absurd h List.not_mem_nil⟩⟩⟩⟩⟩⟩⟩⟩⟩⟩⟩⟩⟩⟩⟩⟩⟩⟩⟩⟩⟩⟩⟩⟩
set_option maxRecDepth 20000 in
theorem lin_r10 : ∀ w ∈ wsL_law_r10, w ∈ lw_tbl := List.forall_mem_cons.mpr ⟨lin_T2 _ (List.mem_of_getElem? (i := 76) rfl), List.forall_mem_cons.mpr ⟨lin_T2 _ (List.mem_of_getElem? (i := 77) rfl), List.forall_mem_cons.mpr ⟨lin_T2 _ (List.mem_of_getElem? (i := 79) rfl), List.forall_mem_cons.mpr ⟨lin_T2 _ (List.mem_of_getElem? (i := 80) rfl), List.forall_mem_cons.mpr ⟨lin_T2 _ (List.mem_of_getElem? (i := 81) rfl), List.forall_mem_cons.mpr ⟨lin_T2 _ (List.mem_of_getElem? (i := 82) rfl), List.forall_mem_cons.mpr ⟨lin_T4 _ (List.mem_of_getElem? (i := 113) rfl), List.forall_mem_cons.mpr ⟨lin_T4 _ (List.mem_of_getElem? (i := 114) rfl), List.forall_mem_cons.mpr ⟨lin_T4 _ (List.mem_of_getElem? (i := 115) rfl), List.forall_mem_cons.mpr ⟨lin_T4 _ (List.mem_of_getElem? (i := 116) rfl), List.forall_mem_cons.mpr ⟨lin_T4 _ (List.mem_of_getElem? (i := 16) rfl), List.forall_mem_cons.mpr ⟨lin_T4 _ (List.mem_of_getElem? (i := 25) rfl), List.forall_mem_cons.mpr ⟨lin_T4 _ (List.mem_of_getElem? (i := 117) rfl), List.forall_mem_cons.mpr ⟨lin_T4 _ (List.mem_of_getElem? (i := 119) rfl), List.forall_mem_cons.mpr ⟨lin_S _ (List.mem_of_getElem? (i := 38) rfl), List.forall_mem_cons.mpr ⟨lin_T4 _ (List.mem_of_getElem? (i := 120) rfl), List.forall_mem_cons.mpr ⟨lin_T4 _ (List.mem_of_getElem? (i := 21) rfl), List.forall_mem_cons.mpr ⟨lin_T4 _ (List.mem_of_getElem? (i := 22) rfl), List.forall_mem_cons.mpr ⟨lin_T4 _ (List.mem_of_getElem? (i := 121) rfl), List.forall_mem_cons.mpr ⟨lin_T4 _ (List.mem_of_getElem? (i := 123) rfl), List.forall_mem_cons.mpr ⟨lin_S _ (List.mem_of_getElem? (i := 39) rfl), List.forall_mem_cons.mpr ⟨lin_T4 _ (List.mem_of_getElem? (i := 124) rfl), List.forall_mem_cons.mpr ⟨lin_T4 _ (List.mem_of_getElem? (i := 125) rfl), List.forall_mem_cons.mpr ⟨lin_T4 _ (List.mem_of_getElem? (i := 127) rfl), fun _ h => absurd h List.not_mem_nil⟩⟩⟩⟩⟩⟩⟩⟩⟩⟩⟩⟩⟩⟩⟩⟩⟩⟩⟩⟩⟩⟩⟩⟩
set_option maxRecDepth 20000 in
theorem lin_r11 : ∀ w ∈ wsL_law_r11, w ∈ lw_tbl := List.forall_mem_cons.mpr ⟨lin_S _ (List.mem_of_getElem? (i := 40) rfl), List.forall_mem_cons.mpr ⟨lin_T4 _ (List.mem_of_getElem? (i := 128) rfl), List.forall_mem_cons.mpr ⟨lin_T4 _ (List.mem_of_getElem? (i := 40) rfl), List.forall_mem_cons.mpr ⟨lin_T4 _ (List.mem_of_getElem? (i := 129) rfl), List.forall_mem_cons.mpr ⟨lin_T4 _ (List.mem_of_getElem? (i := 131) rfl), List.forall_mem_cons.mpr ⟨lin_S _ (List.mem_of_getElem? (i := 41) rfl), List.forall_mem_cons.mpr ⟨lin_T4 _ (List.mem_of_getElem? (i := 132) rfl), List.forall_mem_cons.mpr ⟨lin_T4 _ (List.mem_of_getElem? (i := 23) rfl), List.forall_mem_cons.mpr ⟨lin_T4 _ (List.mem_of_getElem? (i := 133) rfl), List.forall_mem_cons.mpr ⟨lin_T4 _ (List.mem_of_getElem? (i := 134) rfl), List.forall_mem_cons.mpr ⟨lin_T4 _ (List.mem_of_getElem? (i := 135) rfl), List.forall_mem_cons.mpr ⟨lin_T4 _ (List.mem_of_getElem? (i := 136) rfl), List.forall_mem_cons.mpr ⟨lin_T4 _ (List.mem_of_getElem? (i := 138) rfl), List.forall_mem_cons.mpr ⟨lin_S _ (List.mem_of_getElem? (i := 42) rfl), List.forall_mem_cons.mpr ⟨lin_T4 _ (List.mem_of_getElem? (i := 139) rfl), List.forall_mem_cons.mpr ⟨lin_T4 _ (List.mem_of_getElem? (i := 140) rfl), List.forall_mem_cons.mpr ⟨lin_T4 _ (List.mem_of_getElem? (i := 141) rfl), List.forall_mem_cons.mpr ⟨lin_T4 _ (List.mem_of_getElem? (i := 142) rfl), List.forall_mem_cons.mpr ⟨lin_T4 _ (List.mem_of_getElem? (i := 143) rfl), List.forall_mem_cons.mpr ⟨lin_T4 _ (List.mem_of_getElem? (i := 144) rfl), List.forall_mem_cons.mpr ⟨lin_T4 _ (List.mem_of_getElem? (i := 146) rfl), List.forall_mem_cons.mpr ⟨lin_S _ (List.mem_of_getElem? (i := 43) rfl), List.forall_mem_cons.mpr ⟨lin_T4 _ (List.mem_of_getElem? (i := 147) rfl), List.forall_mem_cons.mpr ⟨lin_T4 _ (List.mem_of_getElem? (i := 33) rfl), fun _ h => absurd h List.not_mem_nil⟩⟩⟩⟩⟩⟩⟩⟩⟩⟩⟩⟩⟩⟩⟩⟩⟩⟩⟩⟩⟩⟩⟩⟩
set_option maxRecDepth 20000 in
theorem lin_r12 : ∀ w ∈ wsL_law_r12, w ∈ lw_tbl := List.forall_mem_cons.mpr ⟨lin_T2 _ (List.mem_of_getElem? (i := 83) rfl), List.forall_mem_cons.mpr ⟨lin_T2 _ (List.mem_of_getElem? (i := 84) rfl), List.forall_mem_cons.mpr ⟨lin_T2 _ (List.mem_of_getElem? (i := 85) rfl), List.forall_mem_cons.mpr ⟨lin_T2 _ (List.mem_of_getElem? (i := 86) rfl), List.forall_mem_cons.mpr ⟨lin_T2 _ (List.mem_of_getElem? (i := 87) rfl), List.forall_mem_cons.mpr ⟨lin_T2 _ (List.mem_of_getElem? (i := 88) rfl), List.forall_mem_cons.mpr ⟨lin_T2 _ (List.mem_of_getElem? (i := 89) rfl), List.forall_mem_cons.mpr ⟨lin_T2 _ (List.mem_of_getElem? (i := 90) rfl), List.forall_mem_cons.mpr ⟨lin_T4 _ (List.mem_of_getElem? (i := 148) rfl), List.forall_mem_cons.mpr ⟨lin_T4 _ (List.mem_of_getElem? (i := 149) rfl), List.forall_mem_cons.mpr ⟨lin_T4 _ (List.mem_of_getElem? (i := 150) rfl), List.forall_mem_cons.mpr ⟨lin_T4 _ (List.mem_of_getElem? (i := 151) rfl), List.forall_mem_cons.mpr ⟨lin_T4 _ (List.mem_of_getElem? (i := 152) rfl), List.forall_mem_cons.mpr ⟨lin_T4 _ (List.mem_of_getElem? (i := 154) rfl), List.forall_mem_cons.mpr ⟨lin_S _ (List.mem_of_getElem? (i := 44) rfl), List.forall_mem_cons.mpr ⟨lin_T4 _ (List.mem_of_getElem? (i := 155) rfl), List.forall_mem_cons.mpr ⟨lin_T2 _ (List.mem_of_getElem? (i := 92) rfl), List.forall_mem_cons.mpr ⟨lin_T2 _ (List.mem_of_getElem? (i := 93) rfl), List.forall_mem_cons.mpr ⟨lin_T2 _ (List.mem_of_getElem? (i := 94) rfl), List.forall_mem_cons.mpr ⟨lin_T2 _ (List.mem_of_getElem? (i := 95) rfl), List.forall_mem_cons.mpr ⟨lin_T2 _ (List.mem_of_getElem? (i := 96) rfl), List.forall_mem_cons.mpr ⟨lin_T2 _ (List.mem_of_getElem? (i := 97) rfl), List.forall_mem_cons.mpr ⟨lin_T2 _ (List.mem_of_getElem? (i := 98) rfl), List.forall_mem_cons.mpr ⟨lin_T2 _ (List.mem_of_getElem? (i := 99) rfl), fun _ h => absurd h List.not_mem_nil⟩⟩⟩⟩⟩⟩⟩⟩⟩⟩⟩⟩⟩⟩⟩⟩⟩⟩⟩⟩⟩⟩⟩⟩
set_option maxRecDepth 20000 in
theorem lin_r13 : ∀ w ∈ wsL_law_r13, w ∈ lw_tbl := List.forall_mem_cons.mpr ⟨lin_T2 _ (List.mem_of_getElem? (i := 100) rfl), List.forall_mem_cons.mpr ⟨lin_T2 _ (List.mem_of_getElem? (i := 101) rfl), List.forall_mem_cons.mpr ⟨lin_T2 _ (List.mem_of_getElem? (i := 102) rfl), List.forall_mem_cons.mpr ⟨lin_T2 _ (List.mem_of_getElem? (i := 103) rfl), List.forall_mem_cons.mpr ⟨lin_T2 _ (List.mem_of_getElem? (i := 104) rfl), List.forall_mem_cons.mpr ⟨lin_T2 _ (List.mem_of_getElem? (i := 105) rfl), List.forall_mem_cons.mpr ⟨lin_T2 _ (List.mem_of_getElem? (i := 106) rfl), List.forall_mem_cons.mpr ⟨lin_T4 _ (List.mem_of_getElem? (i := 156) rfl), List.forall_mem_cons.mpr ⟨lin_T4 _ (List.mem_of_getElem? (i := 157) rfl), List.forall_mem_cons.mpr ⟨lin_T4 _ (List.mem_of_getElem? (i := 158) rfl), List.forall_mem_cons.mpr ⟨lin_T4 _ (List.mem_of_getElem? (i := 159) rfl), List.forall_mem_cons.mpr ⟨lin_T4 _ (List.mem_of_getElem? (i := 160) rfl), List.forall_mem_cons.mpr ⟨lin_T4 _ (List.mem_of_getElem? (i := 162) rfl), List.forall_mem_cons.mpr ⟨lin_S _ (List.mem_of_getElem? (i := 45) rfl), List.forall_mem_cons.mpr ⟨lin_T4 _ (List.mem_of_getElem? (i := 163) rfl), List.forall_mem_cons.mpr ⟨lin_T2 _ (List.mem_of_getElem? (i := 107) rfl), List.forall_mem_cons.mpr ⟨lin_T2 _ (List.mem_of_getElem? (i := 108) rfl), List.forall_mem_cons.mpr ⟨lin_T2 _ (List.mem_of_getElem? (i := 109) rfl), List.forall_mem_cons.mpr ⟨lin_T2 _ (List.mem_of_getElem? (i := 110) rfl), List.forall_mem_cons.mpr ⟨lin_T2 _ (List.mem_of_getElem? (i := 111) rfl), List.forall_mem_cons.mpr ⟨lin_T2 _ (List.mem_of_getElem? (i := 112) rfl), List.forall_mem_cons.mpr ⟨lin_T4 _ (List.mem_of_getElem? (i := 164) rfl), List.forall_mem_cons.mpr ⟨lin_T4 _ (List.mem_of_getElem? (i := 165) rfl), List.forall_mem_cons.mpr ⟨lin_T4 _ (List.mem_of_getElem? (i := 166) rfl), fun _ h => absurd h List.not_mem_nil⟩⟩⟩⟩⟩⟩⟩⟩⟩⟩⟩⟩⟩⟩⟩⟩⟩⟩⟩⟩⟩⟩⟩⟩
set_option maxRecDepth 20000 in
theorem lin_r14 : ∀ w ∈ wsL_law_r14, w ∈ lw_tbl := List.forall_mem_cons.mpr ⟨lin_T4 _ (List.mem_of_getElem? (i := 167) rfl), List.forall_mem_cons.mpr ⟨lin_T2 _ (List.mem_of_getElem? (i := 113) rfl), List.forall_mem_cons.mpr ⟨lin_T2 _ (List.mem_of_getElem? (i := 114) rfl), List.forall_mem_cons.mpr ⟨lin_T2 _ (List.mem_of_getElem? (i := 115) rfl), List.forall_mem_cons.mpr ⟨lin_T2 _ (List.mem_of_getElem? (i := 116) rfl), List.forall_mem_cons.mpr ⟨lin_T2 _ (List.mem_of_getElem? (i := 117) rfl), List.forall_mem_cons.mpr ⟨lin_T2 _ (List.mem_of_getElem? (i := 118) rfl), List.forall_mem_cons.mpr ⟨lin_T2 _ (List.mem_of_getElem? (i := 119) rfl), List.forall_mem_cons.mpr ⟨lin_T2 _ (List.mem_of_getElem? (i := 120) rfl), List.forall_mem_cons.mpr ⟨lin_T2 _ (List.mem_of_getElem? (i := 121) rfl), List.forall_mem_cons.mpr ⟨lin_T2 _ (List.mem_of_getElem? (i := 123) rfl), List.forall_mem_cons.mpr ⟨lin_S _ (List.mem_of_getElem? (i := 3) rfl), List.forall_mem_cons.mpr ⟨lin_T2 _ (List.mem_of_getElem? (i := 124) rfl), List.forall_mem_cons.mpr ⟨lin_T2 _ (List.mem_of_getElem? (i := 137) rfl), List.forall_mem_cons.mpr ⟨lin_T2 _ (List.mem_of_getElem? (i := 135) rfl), List.forall_mem_cons.mpr ⟨lin_T1 _ (List.mem_of_getElem? (i := 12) rfl), List.forall_mem_cons.mpr ⟨lin_T2 _ (List.mem_of_getElem? (i := 136) rfl), List.forall_mem_cons.mpr ⟨lin_T2 _ (List.mem_of_getElem? (i := 125) rfl), List.forall_mem_cons.mpr ⟨lin_T2 _ (List.mem_of_getElem? (i := 127) rfl), List.forall_mem_cons.mpr ⟨lin_S _ (List.mem_of_getElem? (i := 4) rfl), List.forall_mem_cons.mpr ⟨lin_T2 _ (List.mem_of_getElem? (i := 128) rfl), List.forall_mem_cons.mpr ⟨lin_T2 _ (List.mem_of_getElem? (i := 129) rfl), List.forall_mem_cons.mpr ⟨lin_T2 _ (List.mem_of_getElem? (i := 130) rfl), List.forall_mem_cons.mpr ⟨lin_T2 _ (List.mem_of_getElem? (i := 131) rfl), fun _ h => absurd h List.not_mem_nil⟩⟩⟩⟩⟩⟩⟩⟩⟩⟩⟩⟩⟩⟩⟩⟩⟩⟩⟩⟩⟩⟩⟩⟩
set_option maxRecDepth 20000 in
theorem lin_r15 : ∀ w ∈ wsL_law_r15, w ∈ lw_tbl := List.forall_mem_cons.mpr ⟨lin_T2 _ (List.mem_of_getElem? (i := 132) rfl), List.forall_mem_cons.mpr ⟨lin_T2 _ (List.mem_of_getElem? (i := 134) rfl), List.forall_mem_cons.mpr ⟨lin_T2 _ (List.mem_of_getElem? (i := 133) rfl), List.forall_mem_cons.mpr ⟨lin_T4 _ (List.mem_of_getElem? (i := 168) rfl), List.forall_mem_cons.mpr ⟨lin_T4 _ (List.mem_of_getElem? (i := 169) rfl), List.forall_mem_cons.mpr ⟨lin_T4 _ (List.mem_of_getElem? (i := 170) rfl), List.forall_mem_cons.mpr ⟨lin_T4 _ (List.mem_of_getElem? (i := 171) rfl), List.forall_mem_cons.mpr ⟨lin_T4 _ (List.mem_of_getElem? (i := 172) rfl), List.forall_mem_cons.mpr ⟨lin_T4 _ (List.mem_of_getElem? (i := 174) rfl), List.forall_mem_cons.mpr ⟨lin_S _ (List.mem_of_getElem? (i := 46) rfl), List.forall_mem_cons.mpr ⟨lin_T4 _ (List.mem_of_getElem? (i := 175) rfl), List.forall_mem_cons.mpr ⟨lin_T4 _ (List.mem_of_getElem? (i := 176) rfl), List.forall_mem_cons.mpr ⟨lin_T4 _ (List.mem_of_getElem? (i := 178) rfl), List.forall_mem_cons.mpr ⟨lin_S _ (List.mem_of_getElem? (i := 47) rfl), List.forall_mem_cons.mpr ⟨lin_T4 _ (List.mem_of_getElem? (i := 179) rfl), List.forall_mem_cons.mpr ⟨lin_T4 _ (List.mem_of_getElem? (i := 29) rfl), List.forall_mem_cons.mpr ⟨lin_T4 _ (List.mem_of_getElem? (i := 28) rfl), List.forall_mem_cons.mpr ⟨lin_T4 _ (List.mem_of_getElem? (i := 30) rfl), List.forall_mem_cons.mpr ⟨lin_T2 _ (List.mem_of_getElem? (i := 138) rfl), List.forall_mem_cons.mpr ⟨lin_T2 _ (List.mem_of_getElem? (i := 139) rfl), List.forall_mem_cons.mpr ⟨lin_T2 _ (List.mem_of_getElem? (i := 140) rfl), List.forall_mem_cons.mpr ⟨lin_T2 _ (List.mem_of_getElem? (i := 141) rfl), List.forall_mem_cons.mpr ⟨lin_T2 _ (List.mem_of_getElem? (i := 142) rfl), List.forall_mem_cons.mpr ⟨lin_T2 _ (List.mem_of_getElem? (i := 143) rfl), fun _ h => absurd h List.not_mem_nil⟩⟩⟩⟩⟩⟩⟩⟩⟩⟩⟩⟩⟩⟩⟩⟩⟩⟩⟩⟩⟩⟩⟩⟩
set_option maxRecDepth 20000 in
theorem lin_r16 : ∀ w ∈ wsL_law_r16, w ∈ lw_tbl := List.forall_mem_cons.mpr ⟨lin_T2 _ (List.mem_of_getElem? (i := 144) rfl), List.forall_mem_cons.mpr ⟨lin_T2 _ (List.mem_of_getElem? (i := 145) rfl), List.forall_mem_cons.mpr ⟨lin_T2 _ (List.mem_of_getElem? (i := 146) rfl), List.forall_mem_cons.mpr ⟨lin_T2 _ (List.mem_of_getElem? (i := 148) rfl), List.forall_mem_cons.mpr ⟨lin_S _ (List.mem_of_getElem? (i := 5) rfl), List.forall_mem_cons.mpr ⟨lin_T2 _ (List.mem_of_getElem? (i := 149) rfl), List.forall_mem_cons.mpr ⟨lin_T2 _ (List.mem_of_getElem? (i := 150) rfl), List.forall_mem_cons.mpr ⟨lin_T2 _ (List.mem_of_getElem? (i := 151) rfl), List.forall_mem_cons.mpr ⟨lin_T1 _ (List.mem_of_getElem? (i := 13) rfl), List.forall_mem_cons.mpr ⟨lin_T2 _ (List.mem_of_getElem? (i := 152) rfl), List.forall_mem_cons.mpr ⟨lin_T2 _ (List.mem_of_getElem? (i := 153) rfl), List.forall_mem_cons.mpr ⟨lin_T2 _ (List.mem_of_getElem? (i := 154) rfl), List.forall_mem_cons.mpr ⟨lin_T2 _ (List.mem_of_getElem? (i := 155) rfl), List.forall_mem_cons.mpr ⟨lin_T2 _ (List.mem_of_getElem? (i := 156) rfl), List.forall_mem_cons.mpr ⟨lin_T2 _ (List.mem_of_getElem? (i := 157) rfl), List.forall_mem_cons.mpr ⟨lin_T2 _ (List.mem_of_getElem? (i := 158) rfl), List.forall_mem_cons.mpr ⟨lin_T2 _ (List.mem_of_getElem? (i := 159) rfl), List.forall_mem_cons.mpr ⟨lin_T2 _ (List.mem_of_getElem? (i := 160) rfl), List.forall_mem_cons.mpr ⟨lin_T2 _ (List.mem_of_getElem? (i := 161) rfl), List.forall_mem_cons.mpr ⟨lin_T2 _ (List.mem_of_getElem? (i := 162) rfl), List.forall_mem_cons.mpr ⟨lin_T2 _ (List.mem_of_getElem? (i := 163) rfl), List.forall_mem_cons.mpr ⟨lin_T2 _ (List.mem_of_getElem? (i := 164) rfl), List.forall_mem_cons.mpr ⟨lin_T2 _ (List.mem_of_getElem? (i := 165) rfl), List.forall_mem_cons.mpr ⟨lin_T2 _ (List.mem_of_getElem? (i := 166) rfl), fun _ h => absurd h List.not_mem_nil⟩⟩⟩⟩⟩⟩⟩⟩⟩⟩⟩⟩⟩⟩⟩⟩⟩⟩⟩⟩⟩⟩⟩⟩
set_option maxRecDepth 20000 in
theorem lin_r17 : ∀ w ∈ wsL_law_r17, w ∈ lw_tbl := List.forall_mem_cons.mpr ⟨lin_T2 _ (List.mem_of_getElem? (i := 167) rfl), List.forall_mem_cons.mpr ⟨lin_T2 _ (List.mem_of_getElem? (i := 168) rfl), List.forall_mem_cons.mpr ⟨lin_T2 _ (List.mem_of_getElem? (i := 169) rfl), List.forall_mem_cons.mpr ⟨lin_T2 _ (List.mem_of_getElem? (i := 170) rfl), List.forall_mem_cons.mpr ⟨lin_T2 _ (List.mem_of_getElem? (i := 171) rfl), List.forall_mem_cons.mpr ⟨lin_T2 _ (List.mem_of_getElem? (i := 172) rfl), List.forall_mem_cons.mpr ⟨lin_T4 _ (List.mem_of_getElem? (i := 180) rfl), List.forall_mem_cons.mpr ⟨lin_T4 _ (List.mem_of_getElem? (i := 181) rfl), List.forall_mem_cons.mpr ⟨lin_T4 _ (List.mem_of_getElem? (i := 182) rfl), List.forall_mem_cons.mpr ⟨lin_T4 _ (List.mem_of_getElem? (i := 183) rfl), List.forall_mem_cons.mpr ⟨lin_T4 _ (List.mem_of_getElem? (i := 26) rfl), List.forall_mem_cons.mpr ⟨lin_T4 _ (List.mem_of_getElem? (i := 184) rfl), List.forall_mem_cons.mpr ⟨lin_T4 _ (List.mem_of_getElem? (i := 186) rfl), List.forall_mem_cons.mpr ⟨lin_S _ (List.mem_of_getElem? (i := 48) rfl), List.forall_mem_cons.mpr ⟨lin_T4 _ (List.mem_of_getElem? (i := 187) rfl), List.forall_mem_cons.mpr ⟨lin_T2 _ (List.mem_of_getElem? (i := 173) rfl), List.forall_mem_cons.mpr ⟨lin_T2 _ (List.mem_of_getElem? (i := 174) rfl), List.forall_mem_cons.mpr ⟨lin_T2 _ (List.mem_of_getElem? (i := 175) rfl), List.forall_mem_cons.mpr ⟨lin_T2 _ (List.mem_of_getElem? (i := 176) rfl), List.forall_mem_cons.mpr ⟨lin_T2 _ (List.mem_of_getElem? (i := 177) rfl), List.forall_mem_cons.mpr ⟨lin_T2 _ (List.mem_of_getElem? (i := 178) rfl), List.forall_mem_cons.mpr ⟨lin_T2 _ (List.mem_of_getElem? (i := 179) rfl), List.forall_mem_cons.mpr ⟨lin_T2 _ (List.mem_of_getElem? (i := 180) rfl), List.forall_mem_cons.mpr ⟨lin_T2 _ (List.mem_of_getElem? (i := 181) rfl), fun _ h => absurd h List.not_mem_nil⟩⟩⟩⟩⟩⟩⟩⟩⟩⟩⟩⟩⟩⟩⟩⟩⟩⟩⟩⟩⟩⟩⟩⟩
set_option maxRecDepth 20000 in
theorem lin_r18 : ∀ w ∈ wsL_law_r18, w ∈ lw_tbl := List.forall_mem_cons.mpr ⟨lin_T2 _ (List.mem_of_getElem? (i := 183) rfl), List.forall_mem_cons.mpr ⟨lin_S _ (List.mem_of_getElem? (i := 6) rfl), List.forall_mem_cons.mpr ⟨lin_T2 _ (List.mem_of_getElem? (i := 184) rfl), List.forall_mem_cons.mpr ⟨lin_T2 _ (List.mem_of_getElem? (i := 185) rfl), List.forall_mem_cons.mpr ⟨lin_T2 _ (List.mem_of_getElem? (i := 187) rfl), List.forall_mem_cons.mpr ⟨lin_S _ (List.mem_of_getElem? (i := 7) rfl), List.forall_mem_cons.mpr ⟨lin_T2 _ (List.mem_of_getElem? (i := 188) rfl), List.forall_mem_cons.mpr ⟨lin_T2 _ (List.mem_of_getElem? (i := 189) rfl), List.forall_mem_cons.mpr ⟨lin_T2 _ (List.mem_of_getElem? (i := 191) rfl), List.forall_mem_cons.mpr ⟨lin_S _ (List.mem_of_getElem? (i := 8) rfl), List.forall_mem_cons.mpr ⟨lin_T2 _ (List.mem_of_getElem? (i := 192) rfl), List.forall_mem_cons.mpr ⟨lin_T2 _ (List.mem_of_getElem? (i := 193) rfl), List.forall_mem_cons.mpr ⟨lin_T2 _ (List.mem_of_getElem? (i := 194) rfl), List.forall_mem_cons.mpr ⟨lin_T2 _ (List.mem_of_getElem? (i := 195) rfl), List.forall_mem_cons.mpr ⟨lin_T2 _ (List.mem_of_getElem? (i := 196) rfl), List.forall_mem_cons.mpr ⟨lin_T2 _ (List.mem_of_getElem? (i := 197) rfl), List.forall_mem_cons.mpr ⟨lin_T2 _ (List.mem_of_getElem? (i := 198) rfl), List.forall_mem_cons.mpr ⟨lin_T2 _ (List.mem_of_getElem? (i := 199) rfl), List.forall_mem_cons.mpr ⟨lin_T2 _ (List.mem_of_getElem? (i := 201) rfl), List.forall_mem_cons.mpr ⟨lin_S _ (List.mem_of_getElem? (i := 9) rfl), List.forall_mem_cons.mpr ⟨lin_T2 _ (List.mem_of_getElem? (i := 202) rfl), List.forall_mem_cons.mpr ⟨lin_T2 _ (List.mem_of_getElem? (i := 203) rfl), List.forall_mem_cons.mpr ⟨lin_T2 _ (List.mem_of_getElem? (i := 204) rfl), List.forall_mem_cons.mpr ⟨lin_T2 _ (List.mem_of_getElem? (i := 205) rfl), fun _ h => absurd h List.not_mem_nil⟩⟩⟩⟩⟩⟩⟩⟩⟩⟩⟩⟩⟩⟩⟩⟩⟩⟩⟩⟩⟩⟩⟩⟩
set_option maxRecDepth 20000 in
theorem lin_r19 : ∀ w ∈ wsL_law_r19, w ∈ lw_tbl := List.forall_mem_cons.mpr ⟨lin_T2 _ (List.mem_of_getElem? (i := 206) rfl), List.forall_mem_cons.mpr ⟨lin_T2 _ (List.mem_of_getElem? (i := 207) rfl), List.forall_mem_cons.mpr ⟨lin_T2 _ (List.mem_of_getElem? (i := 209) rfl), List.forall_mem_cons.mpr ⟨lin_S _ (List.mem_of_getElem? (i := 10) rfl), List.forall_mem_cons.mpr ⟨lin_T2 _ (List.mem_of_getElem? (i := 210) rfl), List.forall_mem_cons.mpr ⟨lin_T2 _ (List.mem_of_getElem? (i := 211) rfl), List.forall_mem_cons.mpr ⟨lin_T2 _ (List.mem_of_getElem? (i := 213) rfl), List.forall_mem_cons.mpr ⟨lin_S _ (List.mem_of_getElem? (i := 11) rfl), List.forall_mem_cons.mpr ⟨lin_T2 _ (List.mem_of_getElem? (i := 214) rfl), List.forall_mem_cons.mpr ⟨lin_T2 _ (List.mem_of_getElem? (i := 215) rfl), List.forall_mem_cons.mpr ⟨lin_T2 _ (List.mem_of_getElem? (i := 216) rfl), List.forall_mem_cons.mpr ⟨lin_T2 _ (List.mem_of_getElem? (i := 217) rfl), List.forall_mem_cons.mpr ⟨lin_T2 _ (List.mem_of_getElem? (i := 218) rfl), List.forall_mem_cons.mpr ⟨lin_T2 _ (List.mem_of_getElem? (i := 219) rfl), List.forall_mem_cons.mpr ⟨lin_T2 _ (List.mem_of_getElem? (i := 221) rfl), List.forall_mem_cons.mpr ⟨lin_S _ (List.mem_of_getElem? (i := 12) rfl), List.forall_mem_cons.mpr ⟨lin_T2 _ (List.mem_of_getElem? (i := 222) rfl), List.forall_mem_cons.mpr ⟨lin_T2 _ (List.mem_of_getElem? (i := 223) rfl), List.forall_mem_cons.mpr ⟨lin_T2 _ (List.mem_of_getElem? (i := 225) rfl), List.forall_mem_cons.mpr ⟨lin_S _ (List.mem_of_getElem? (i := 13) rfl), List.forall_mem_cons.mpr ⟨lin_T2 _ (List.mem_of_getElem? (i := 226) rfl), List.forall_mem_cons.mpr ⟨lin_T2 _ (List.mem_of_getElem? (i := 227) rfl), List.forall_mem_cons.mpr ⟨lin_T2 _ (List.mem_of_getElem? (i := 229) rfl), List.forall_mem_cons.mpr ⟨lin_S _ (List.mem_of_getElem? (i := 14) rfl), fun _ h => absurd h List.not_mem_nil⟩⟩⟩⟩⟩⟩⟩⟩⟩⟩⟩⟩⟩⟩⟩⟩⟩⟩⟩⟩⟩⟩⟩⟩
set_option maxRecDepth 20000 in
theorem lin_r20 : ∀ w ∈ wsL_law_r20, w ∈ lw_tbl := List.forall_mem_cons.mpr ⟨lin_T2 _ (List.mem_of_getElem? (i := 230) rfl), List.forall_mem_cons.mpr ⟨lin_T2 _ (List.mem_of_getElem? (i := 231) rfl), List.forall_mem_cons.mpr ⟨lin_T2 _ (List.mem_of_getElem? (i := 232) rfl), List.forall_mem_cons.mpr ⟨lin_T2 _ (List.mem_of_getElem? (i := 233) rfl), List.forall_mem_cons.mpr ⟨lin_T2 _ (List.mem_of_getElem? (i := 234) rfl), List.forall_mem_cons.mpr ⟨lin_T2 _ (List.mem_of_getElem? (i := 235) rfl), List.forall_mem_cons.mpr ⟨lin_T2 _ (List.mem_of_getElem? (i := 236) rfl), List.forall_mem_cons.mpr ⟨lin_T2 _ (List.mem_of_getElem? (i := 237) rfl), List.forall_mem_cons.mpr ⟨lin_T2 _ (List.mem_of_getElem? (i := 238) rfl), List.forall_mem_cons.mpr ⟨lin_T2 _ (List.mem_of_getElem? (i := 239) rfl), List.forall_mem_cons.mpr ⟨lin_T3 _ (List.mem_of_getElem? (i := 1) rfl), List.forall_mem_cons.mpr ⟨lin_S _ (List.mem_of_getElem? (i := 15) rfl), List.forall_mem_cons.mpr ⟨lin_T3 _ (List.mem_of_getElem? (i := 2) rfl), List.forall_mem_cons.mpr ⟨lin_T3 _ (List.mem_of_getElem? (i := 3) rfl), List.forall_mem_cons.mpr ⟨lin_T3 _ (List.mem_of_getElem? (i := 4) rfl), List.forall_mem_cons.mpr ⟨lin_T3 _ (List.mem_of_getElem? (i := 6) rfl), List.forall_mem_cons.mpr ⟨lin_S _ (List.mem_of_getElem? (i := 16) rfl), List.forall_mem_cons.mpr ⟨lin_T3 _ (List.mem_of_getElem? (i := 7) rfl), List.forall_mem_cons.mpr ⟨lin_T3 _ (List.mem_of_getElem? (i := 8) rfl), List.forall_mem_cons.mpr ⟨lin_T3 _ (List.mem_of_getElem? (i := 9) rfl), List.forall_mem_cons.mpr ⟨lin_T3 _ (List.mem_of_getElem? (i := 10) rfl), List.forall_mem_cons.mpr ⟨lin_T3 _ (List.mem_of_getElem? (i := 11) rfl), List.forall_mem_cons.mpr ⟨lin_T3 _ (List.mem_of_getElem? (i := 12) rfl), List.forall_mem_cons.mpr ⟨lin_T3 _ (List.mem_of_getElem? (i := 13) rfl), fun _ h => absurd h List.not_mem_nil⟩⟩⟩⟩⟩⟩⟩⟩⟩⟩⟩⟩⟩⟩⟩⟩⟩⟩⟩⟩⟩⟩⟩⟩
set_option maxRecDepth 20000 in
theorem lin_r21 : ∀ w ∈ wsL_law_r21, w ∈ lw_tbl := List.forall_mem_cons.mpr ⟨lin_T4 _ (List.mem_of_getElem? (i := 188) rfl), List.forall_mem_cons.mpr ⟨lin_T4 _ (List.mem_of_getElem? (i := 189) rfl), List.forall_mem_cons.mpr ⟨lin_T4 _ (List.mem_of_getElem? (i := 190) rfl), List.forall_mem_cons.mpr ⟨lin_T4 _ (List.mem_of_getElem? (i := 191) rfl), List.forall_mem_cons.mpr ⟨lin_T4 _ (List.mem_of_getElem? (i := 192) rfl), List.forall_mem_cons.mpr ⟨lin_T4 _ (List.mem_of_getElem? (i := 194) rfl), List.forall_mem_cons.mpr ⟨lin_S _ (List.mem_of_getElem? (i := 49) rfl), List.forall_mem_cons.mpr ⟨lin_T4 _ (List.mem_of_getElem? (i := 195) rfl), List.forall_mem_cons.mpr ⟨lin_T4 _ (List.mem_of_getElem? (i := 200) rfl), List.forall_mem_cons.mpr ⟨lin_T4 _ (List.mem_of_getElem? (i := 196) rfl), List.forall_mem_cons.mpr ⟨lin_T4 _ (List.mem_of_getElem? (i := 198) rfl), List.forall_mem_cons.mpr ⟨lin_S _ (List.mem_of_getElem? (i := 50) rfl), List.forall_mem_cons.mpr ⟨lin_T4 _ (List.mem_of_getElem? (i := 199) rfl), List.forall_mem_cons.mpr ⟨lin_T4 _ (List.mem_of_getElem? (i := 201) rfl), List.forall_mem_cons.mpr ⟨lin_T4 _ (List.mem_of_getElem? (i := 203) rfl), List.forall_mem_cons.mpr ⟨lin_S _ (List.mem_of_getElem? (i := 51) rfl), List.forall_mem_cons.mpr ⟨lin_T4 _ (List.mem_of_getElem? (i := 204) rfl), List.forall_mem_cons.mpr ⟨lin_T4 _ (List.mem_of_getElem? (i := 205) rfl), List.forall_mem_cons.mpr ⟨lin_T4 _ (List.mem_of_getElem? (i := 206) rfl), List.forall_mem_cons.mpr ⟨lin_T4 _ (List.mem_of_getElem? (i := 207) rfl), List.forall_mem_cons.mpr ⟨lin_T4 _ (List.mem_of_getElem? (i := 208) rfl), List.forall_mem_cons.mpr ⟨lin_T4 _ (List.mem_of_getElem? (i := 210) rfl), List.forall_mem_cons.mpr ⟨lin_S _ (List.mem_of_getElem? (i := 52) rfl), List.forall_mem_cons.mpr ⟨lin_T4 _ (List.mem_of_getElem? (i := 211) rfl), fun _ h => absurd h List.not_mem_nil⟩⟩⟩⟩⟩⟩⟩⟩⟩⟩⟩⟩⟩⟩⟩⟩⟩⟩⟩⟩⟩⟩⟩⟩
set_option maxRecDepth 20000 in
theorem lin_r22 : ∀ w ∈ wsL_law_r22, w ∈ lw_tbl := List.forall_mem_cons.mpr ⟨lin_T3 _ (List.mem_of_getElem? (i := 14) rfl), List.forall_mem_cons.mpr ⟨lin_T3 _ (List.mem_of_getElem? (i := 15) rfl), List.forall_mem_cons.mpr ⟨lin_T3 _ (List.mem_of_getElem? (i := 16) rfl), List.forall_mem_cons.mpr ⟨lin_T3 _ (List.mem_of_getElem? (i := 17) rfl), List.forall_mem_cons.mpr ⟨lin_T3 _ (List.mem_of_getElem? (i := 18) rfl), List.forall_mem_cons.mpr ⟨lin_T4 _ (List.mem_of_getElem? (i := 212) rfl), List.forall_mem_cons.mpr ⟨lin_T4 _ (List.mem_of_getElem? (i := 213) rfl), List.forall_mem_cons.mpr ⟨lin_T4 _ (List.mem_of_getElem? (i := 214) rfl), List.forall_mem_cons.mpr ⟨lin_T4 _ (List.mem_of_getElem? (i := 215) rfl), List.forall_mem_cons.mpr ⟨lin_T4 _ (List.mem_of_getElem? (i := 216) rfl), List.forall_mem_cons.mpr ⟨lin_T3 _ (List.mem_of_getElem? (i := 19) rfl), List.forall_mem_cons.mpr ⟨lin_T3 _ (List.mem_of_getElem? (i := 20) rfl), List.forall_mem_cons.mpr ⟨lin_T3 _ (List.mem_of_getElem? (i := 21) rfl), List.forall_mem_cons.mpr ⟨lin_T3 _ (List.mem_of_getElem? (i := 22) rfl), List.forall_mem_cons.mpr ⟨lin_T3 _ (List.mem_of_getElem? (i := 23) rfl), List.forall_mem_cons.mpr ⟨lin_T3 _ (List.mem_of_getElem? (i := 24) rfl), List.forall_mem_cons.mpr ⟨lin_T3 _ (List.mem_of_getElem? (i := 25) rfl), List.forall_mem_cons.mpr ⟨lin_T3 _ (List.mem_of_getElem? (i := 26) rfl), List.forall_mem_cons.mpr ⟨lin_T4 _ (List.mem_of_getElem? (i := 217) rfl), List.forall_mem_cons.mpr ⟨lin_T4 _ (List.mem_of_getElem? (i := 218) rfl), List.forall_mem_cons.mpr ⟨lin_T4 _ (List.mem_of_getElem? (i := 219) rfl), List.forall_mem_cons.mpr ⟨lin_T4 _ (List.mem_of_getElem? (i := 220) rfl), List.forall_mem_cons.mpr ⟨lin_T3 _ (List.mem_of_getElem? (i := 27) rfl), List.forall_mem_cons.mpr ⟨lin_T3 _ (List.mem_of_getElem? (i := 28) rfl), fun _ h => absurd h List.not_mem_nil⟩⟩⟩⟩⟩⟩⟩⟩⟩⟩⟩⟩⟩⟩⟩⟩⟩⟩⟩⟩⟩⟩⟩⟩
set_option maxRecDepth 20000 in
theorem lin_r23 : ∀ w ∈ wsL_law_r23, w ∈ lw_tbl := List.forall_mem_cons.mpr ⟨lin_T3 _ (List.mem_of_getElem? (i := 29) rfl), List.forall_mem_cons.mpr ⟨lin_T3 _ (List.mem_of_getElem? (i := 30) rfl), List.forall_mem_cons.mpr ⟨lin_T3 _ (List.mem_of_getElem? (i := 31) rfl), List.forall_mem_cons.mpr ⟨lin_T3 _ (List.mem_of_getElem? (i := 32) rfl), List.forall_mem_cons.mpr ⟨lin_T3 _ (List.mem_of_getElem? (i := 33) rfl), List.forall_mem_cons.mpr ⟨lin_T3 _ (List.mem_of_getElem? (i := 34) rfl), List.forall_mem_cons.mpr ⟨lin_T3 _ (List.mem_of_getElem? (i := 35) rfl), List.forall_mem_cons.mpr ⟨lin_T3 _ (List.mem_of_getElem? (i := 36) rfl), List.forall_mem_cons.mpr ⟨lin_T3 _ (List.mem_of_getElem? (i := 37) rfl), List.forall_mem_cons.mpr ⟨lin_T3 _ (List.mem_of_getElem? (i := 38) rfl), List.forall_mem_cons.mpr ⟨lin_T3 _ (List.mem_of_getElem? (i := 39) rfl), List.forall_mem_cons.mpr ⟨lin_T3 _ (List.mem_of_getElem? (i := 40) rfl), List.forall_mem_cons.mpr ⟨lin_T3 _ (List.mem_of_getElem? (i := 41) rfl), List.forall_mem_cons.mpr ⟨lin_T3 _ (List.mem_of_getElem? (i := 42) rfl), List.forall_mem_cons.mpr ⟨lin_T3 _ (List.mem_of_getElem? (i := 43) rfl), List.forall_mem_cons.mpr ⟨lin_T3 _ (List.mem_of_getElem? (i := 44) rfl), List.forall_mem_cons.mpr ⟨lin_T3 _ (List.mem_of_getElem? (i := 45) rfl), List.forall_mem_cons.mpr ⟨lin_T3 _ (List.mem_of_getElem? (i := 46) rfl), List.forall_mem_cons.mpr ⟨lin_T3 _ (List.mem_of_getElem? (i := 47) rfl), List.forall_mem_cons.mpr ⟨lin_T3 _ (List.mem_of_getElem? (i := 48) rfl), List.forall_mem_cons.mpr ⟨lin_T3 _ (List.mem_of_getElem? (i := 49) rfl), List.forall_mem_cons.mpr ⟨lin_T3 _ (List.mem_of_getElem? (i := 50) rfl), List.forall_mem_cons.mpr ⟨lin_T3 _ (List.mem_of_getElem? (i := 51) rfl), List.forall_mem_cons.mpr ⟨lin_T3 _ (List.mem_of_getElem? (i := 52) rfl), fun _ h => absurd h List.not_mem_nil⟩⟩⟩⟩⟩⟩⟩⟩⟩⟩⟩⟩⟩⟩⟩⟩⟩⟩⟩⟩⟩⟩⟩⟩
set_option maxRecDepth 20000 in
theorem lin_r24 : ∀ w ∈ wsL_law_r24, w ∈ lw_tbl := List.forall_mem_cons.mpr ⟨lin_T3 _ (List.mem_of_getElem? (i := 53) rfl), List.forall_mem_cons.mpr ⟨lin_T3 _ (List.mem_of_getElem? (i := 55) rfl), List.forall_mem_cons.mpr ⟨lin_S _ (List.mem_of_getElem? (i := 17) rfl), List.forall_mem_cons.mpr ⟨lin_T3 _ (List.mem_of_getElem? (i := 56) rfl), List.forall_mem_cons.mpr ⟨lin_T3 _ (List.mem_of_getElem? (i := 57) rfl), List.forall_mem_cons.mpr ⟨lin_T3 _ (List.mem_of_getElem? (i := 59) rfl), List.forall_mem_cons.mpr ⟨lin_S _ (List.mem_of_getElem? (i := 18) rfl), List.forall_mem_cons.mpr ⟨lin_T3 _ (List.mem_of_getElem? (i := 60) rfl), List.forall_mem_cons.mpr ⟨lin_T3 _ (List.mem_of_getElem? (i := 61) rfl), List.forall_mem_cons.mpr ⟨lin_T3 _ (List.mem_of_getElem? (i := 62) rfl), List.forall_mem_cons.mpr ⟨lin_T3 _ (List.mem_of_getElem? (i := 63) rfl), List.forall_mem_cons.mpr ⟨lin_T3 _ (List.mem_of_getElem? (i := 64) rfl), List.forall_mem_cons.mpr ⟨lin_T3 _ (List.mem_of_getElem? (i := 65) rfl), List.forall_mem_cons.mpr ⟨lin_T3 _ (List.mem_of_getElem? (i := 66) rfl), List.forall_mem_cons.mpr ⟨lin_T3 _ (List.mem_of_getElem? (i := 67) rfl), List.forall_mem_cons.mpr ⟨lin_T3 _ (List.mem_of_getElem? (i := 68) rfl), List.forall_mem_cons.mpr ⟨lin_T3 _ (List.mem_of_getElem? (i := 69) rfl), List.forall_mem_cons.mpr ⟨lin_T3 _ (List.mem_of_getElem? (i := 71) rfl), List.forall_mem_cons.mpr ⟨lin_S _ (List.mem_of_getElem? (i := 19) rfl), List.forall_mem_cons.mpr ⟨lin_T3 _ (List.mem_of_getElem? (i := 72) rfl), List.forall_mem_cons.mpr ⟨lin_T3 _ (List.mem_of_getElem? (i := 73) rfl), List.forall_mem_cons.mpr ⟨lin_T3 _ (List.mem_of_getElem? (i := 74) rfl), List.forall_mem_cons.mpr ⟨lin_T3 _ (List.mem_of_getElem? (i := 75) rfl), List.forall_mem_cons.mpr ⟨lin_T3 _ (List.mem_of_getElem? (i := 76) rfl), fun _ h => absurd h List.not_mem_nil⟩⟩⟩⟩⟩⟩⟩⟩⟩⟩⟩⟩⟩⟩⟩⟩⟩⟩⟩⟩⟩⟩⟩⟩
set_option maxRecDepth 20000 in
theorem lin_r25 : ∀ w ∈ wsL_law_r25, w ∈ lw_tbl := List.forall_mem_cons.mpr ⟨lin_T3 _ (List.mem_of_getElem? (i := 78) rfl), List.forall_mem_cons.mpr ⟨lin_S _ (List.mem_of_getElem? (i := 20) rfl), List.forall_mem_cons.mpr ⟨lin_T3 _ (List.mem_of_getElem? (i := 79) rfl), List.forall_mem_cons.mpr ⟨lin_T3 _ (List.mem_of_getElem? (i := 80) rfl), List.forall_mem_cons.mpr ⟨lin_T3 _ (List.mem_of_getElem? (i := 82) rfl), List.forall_mem_cons.mpr ⟨lin_S _ (List.mem_of_getElem? (i := 21) rfl), List.forall_mem_cons.mpr ⟨lin_T3 _ (List.mem_of_getElem? (i := 83) rfl), List.forall_mem_cons.mpr ⟨lin_T3 _ (List.mem_of_getElem? (i := 85) rfl), List.forall_mem_cons.mpr ⟨lin_T3 _ (List.mem_of_getElem? (i := 87) rfl), List.forall_mem_cons.mpr ⟨lin_S _ (List.mem_of_getElem? (i := 22) rfl), List.forall_mem_cons.mpr ⟨lin_T3 _ (List.mem_of_getElem? (i := 88) rfl), List.forall_mem_cons.mpr ⟨lin_T3 _ (List.mem_of_getElem? (i := 90) rfl), List.forall_mem_cons.mpr ⟨lin_T3 _ (List.mem_of_getElem? (i := 92) rfl), List.forall_mem_cons.mpr ⟨lin_S _ (List.mem_of_getElem? (i := 23) rfl), List.forall_mem_cons.mpr ⟨lin_T3 _ (List.mem_of_getElem? (i := 93) rfl), List.forall_mem_cons.mpr ⟨lin_T3 _ (List.mem_of_getElem? (i := 94) rfl), List.forall_mem_cons.mpr ⟨lin_T3 _ (List.mem_of_getElem? (i := 95) rfl), List.forall_mem_cons.mpr ⟨lin_T3 _ (List.mem_of_getElem? (i := 96) rfl), List.forall_mem_cons.mpr ⟨lin_T3 _ (List.mem_of_getElem? (i := 97) rfl), List.forall_mem_cons.mpr ⟨lin_T3 _ (List.mem_of_getElem? (i := 98) rfl), List.forall_mem_cons.mpr ⟨lin_T3 _ (List.mem_of_getElem? (i := 99) rfl), List.forall_mem_cons.mpr ⟨lin_T3 _ (List.mem_of_getElem? (i := 100) rfl), List.forall_mem_cons.mpr ⟨lin_T3 _ (List.mem_of_getElem? (i := 101) rfl), List.forall_mem_cons.mpr ⟨lin_T3 _ (List.mem_of_getElem? (i := 102) rfl), fun _ h => absurd h List.not_mem_nil⟩⟩⟩⟩⟩⟩⟩⟩⟩⟩⟩⟩⟩⟩⟩⟩⟩⟩⟩⟩⟩⟩⟩⟩
set_option maxRecDepth 20000 in
theorem lin_r26 : ∀ w ∈ wsL_law_r26, w ∈ lw_tbl := List.forall_mem_cons.mpr ⟨lin_T3 _ (List.mem_of_getElem? (i := 103) rfl), List.forall_mem_cons.mpr ⟨lin_T3 _ (List.mem_of_getElem? (i := 104) rfl), List.forall_mem_cons.mpr ⟨lin_T3 _ (List.mem_of_getElem? (i := 106) rfl), List.forall_mem_cons.mpr ⟨lin_S _ (List.mem_of_getElem? (i := 24) rfl), List.forall_mem_cons.mpr ⟨lin_T3 _ (List.mem_of_getElem? (i := 107) rfl), List.forall_mem_cons.mpr ⟨lin_T3 _ (List.mem_of_getElem? (i := 108) rfl), List.forall_mem_cons.mpr ⟨lin_T3 _ (List.mem_of_getElem? (i := 109) rfl), List.forall_mem_cons.mpr ⟨lin_T3 _ (List.mem_of_getElem? (i := 110) rfl), List.forall_mem_cons.mpr ⟨lin_T3 _ (List.mem_of_getElem? (i := 111) rfl), List.forall_mem_cons.mpr ⟨lin_T3 _ (List.mem_of_getElem? (i := 112) rfl), List.forall_mem_cons.mpr ⟨lin_T3 _ (List.mem_of_getElem? (i := 113) rfl), List.forall_mem_cons.mpr ⟨lin_T3 _ (List.mem_of_getElem? (i := 114) rfl), List.forall_mem_cons.mpr ⟨lin_T3 _ (List.mem_of_getElem? (i := 115) rfl), List.forall_mem_cons.mpr ⟨lin_T3 _ (List.mem_of_getElem? (i := 116) rfl), List.forall_mem_cons.mpr ⟨lin_T3 _ (List.mem_of_getElem? (i := 117) rfl), List.forall_mem_cons.mpr ⟨lin_T3 _ (List.mem_of_getElem? (i := 118) rfl), List.forall_mem_cons.mpr ⟨lin_T3 _ (List.mem_of_getElem? (i := 119) rfl), List.forall_mem_cons.mpr ⟨lin_T3 _ (List.mem_of_getElem? (i := 120) rfl), List.forall_mem_cons.mpr ⟨lin_T3 _ (List.mem_of_getElem? (i := 121) rfl), List.forall_mem_cons.mpr ⟨lin_T3 _ (List.mem_of_getElem? (i := 123) rfl), List.forall_mem_cons.mpr ⟨lin_S _ (List.mem_of_getElem? (i := 25) rfl), List.forall_mem_cons.mpr ⟨lin_T3 _ (List.mem_of_getElem? (i := 124) rfl), List.forall_mem_cons.mpr ⟨lin_T3 _ (List.mem_of_getElem? (i := 125) rfl), List.forall_mem_cons.mpr ⟨lin_T3 _ (List.mem_of_getElem? (i := 127) rfl), fun _ h => absurd h List.not_mem_nil⟩⟩⟩⟩⟩⟩⟩⟩⟩⟩⟩⟩⟩⟩⟩⟩⟩⟩⟩⟩⟩⟩⟩⟩
set_option maxRecDepth 20000 in
theorem lin_r27 : ∀ w ∈ wsL_law_r27, w ∈ lw_tbl := List.forall_mem_cons.mpr ⟨lin_S _ (List.mem_of_getElem? (i := 26) rfl), List.forall_mem_cons.mpr ⟨lin_T3 _ (List.mem_of_getElem? (i := 128) rfl), List.forall_mem_cons.mpr ⟨lin_T3 _ (List.mem_of_getElem? (i := 130) rfl), List.forall_mem_cons.mpr ⟨lin_T3 _ (List.mem_of_getElem? (i := 132) rfl), List.forall_mem_cons.mpr ⟨lin_S _ (List.mem_of_getElem? (i := 27) rfl), List.forall_mem_cons.mpr ⟨lin_T3 _ (List.mem_of_getElem? (i := 133) rfl), List.forall_mem_cons.mpr ⟨lin_T3 _ (List.mem_of_getElem? (i := 134) rfl), List.forall_mem_cons.mpr ⟨lin_T3 _ (List.mem_of_getElem? (i := 135) rfl), List.forall_mem_cons.mpr ⟨lin_T3 _ (List.mem_of_getElem? (i := 137) rfl), List.forall_mem_cons.mpr ⟨lin_S _ (List.mem_of_getElem? (i := 28) rfl), List.forall_mem_cons.mpr ⟨lin_T3 _ (List.mem_of_getElem? (i := 138) rfl), List.forall_mem_cons.mpr ⟨lin_T3 _ (List.mem_of_getElem? (i := 139) rfl), List.forall_mem_cons.mpr ⟨lin_T3 _ (List.mem_of_getElem? (i := 141) rfl), List.forall_mem_cons.mpr ⟨lin_S _ (List.mem_of_getElem? (i := 29) rfl), List.forall_mem_cons.mpr ⟨lin_T3 _ (List.mem_of_getElem? (i := 142) rfl), List.forall_mem_cons.mpr ⟨lin_T3 _ (List.mem_of_getElem? (i := 144) rfl), List.forall_mem_cons.mpr ⟨lin_T3 _ (List.mem_of_getElem? (i := 145) rfl), List.forall_mem_cons.mpr ⟨lin_T3 _ (List.mem_of_getElem? (i := 146) rfl), List.forall_mem_cons.mpr ⟨lin_T3 _ (List.mem_of_getElem? (i := 148) rfl), List.forall_mem_cons.mpr ⟨lin_S _ (List.mem_of_getElem? (i := 30) rfl), List.forall_mem_cons.mpr ⟨lin_T3 _ (List.mem_of_getElem? (i := 149) rfl), List.forall_mem_cons.mpr ⟨lin_T3 _ (List.mem_of_getElem? (i := 150) rfl), List.forall_mem_cons.mpr ⟨lin_T3 _ (List.mem_of_getElem? (i := 151) rfl), List.forall_mem_cons.mpr ⟨lin_T3 _ (List.mem_of_getElem? (i := 152) rfl), fun _ h => absurd h List.not_mem_nil⟩⟩⟩⟩⟩⟩⟩⟩⟩⟩⟩⟩⟩⟩⟩⟩⟩⟩⟩⟩⟩⟩⟩⟩
set_option maxRecDepth 20000 in
theorem lin_r28 : ∀ w ∈ wsL_law_r28, w ∈ lw_tbl := List.forall_mem_cons.mpr ⟨lin_T3 _ (List.mem_of_getElem? (i := 153) rfl), List.forall_mem_cons.mpr ⟨lin_T3 _ (List.mem_of_getElem? (i := 154) rfl), List.forall_mem_cons.mpr ⟨lin_T3 _ (List.mem_of_getElem? (i := 155) rfl), List.forall_mem_cons.mpr ⟨lin_T3 _ (List.mem_of_getElem? (i := 157) rfl), List.forall_mem_cons.mpr ⟨lin_S _ (List.mem_of_getElem? (i := 31) rfl), List.forall_mem_cons.mpr ⟨lin_T3 _ (List.mem_of_getElem? (i := 158) rfl), List.forall_mem_cons.mpr ⟨lin_T3 _ (List.mem_of_getElem? (i := 159) rfl), List.forall_mem_cons.mpr ⟨lin_T3 _ (List.mem_of_getElem? (i := 161) rfl), List.forall_mem_cons.mpr ⟨lin_S _ (List.mem_of_getElem? (i := 32) rfl), List.forall_mem_cons.mpr ⟨lin_T3 _ (List.mem_of_getElem? (i := 162) rfl), List.forall_mem_cons.mpr ⟨lin_T3 _ (List.mem_of_getElem? (i := 163) rfl), List.forall_mem_cons.mpr ⟨lin_T3 _ (List.mem_of_getElem? (i := 165) rfl), List.forall_mem_cons.mpr ⟨lin_S _ (List.mem_of_getElem? (i := 33) rfl), List.forall_mem_cons.mpr ⟨lin_T3 _ (List.mem_of_getElem? (i := 166) rfl), List.forall_mem_cons.mpr ⟨lin_T3 _ (List.mem_of_getElem? (i := 167) rfl), List.forall_mem_cons.mpr ⟨lin_T3 _ (List.mem_of_getElem? (i := 168) rfl), List.forall_mem_cons.mpr ⟨lin_T3 _ (List.mem_of_getElem? (i := 170) rfl), List.forall_mem_cons.mpr ⟨lin_S _ (List.mem_of_getElem? (i := 34) rfl), List.forall_mem_cons.mpr ⟨lin_T3 _ (List.mem_of_getElem? (i := 171) rfl), List.forall_mem_cons.mpr ⟨lin_T3 _ (List.mem_of_getElem? (i := 176) rfl), List.forall_mem_cons.mpr ⟨lin_T3 _ (List.mem_of_getElem? (i := 172) rfl), List.forall_mem_cons.mpr ⟨lin_T3 _ (List.mem_of_getElem? (i := 174) rfl), List.forall_mem_cons.mpr ⟨lin_S _ (List.mem_of_getElem? (i := 35) rfl), List.forall_mem_cons.mpr ⟨lin_T3 _ (List.mem_of_getElem? (i := 175) rfl), fun _ h => absurd h List.not_mem_nil⟩⟩⟩⟩⟩⟩⟩⟩⟩⟩⟩⟩⟩⟩⟩⟩⟩⟩⟩⟩⟩⟩⟩⟩
set_option maxRecDepth 20000 in
theorem lin_r29 : ∀ w ∈ wsL_law_r29, w ∈ lw_tbl := List.forall_mem_cons.mpr ⟨lin_T3 _ (List.mem_of_getElem? (i := 177) rfl), List.forall_mem_cons.mpr ⟨lin_T3 _ (List.mem_of_getElem? (i := 178) rfl), List.forall_mem_cons.mpr ⟨lin_T3 _ (List.mem_of_getElem? (i := 179) rfl), List.forall_mem_cons.mpr ⟨lin_T3 _ (List.mem_of_getElem? (i := 180) rfl), List.forall_mem_cons.mpr ⟨lin_T3 _ (List.mem_of_getElem? (i := 181) rfl), List.forall_mem_cons.mpr ⟨lin_T3 _ (List.mem_of_getElem? (i := 182) rfl), List.forall_mem_cons.mpr ⟨lin_T3 _ (List.mem_of_getElem? (i := 183) rfl), List.forall_mem_cons.mpr ⟨lin_T3 _ (List.mem_of_getElem? (i := 184) rfl), List.forall_mem_cons.mpr ⟨lin_T3 _ (List.mem_of_getElem? (i := 185) rfl), List.forall_mem_cons.mpr ⟨lin_T3 _ (List.mem_of_getElem? (i := 186) rfl), List.forall_mem_cons.mpr ⟨lin_T3 _ (List.mem_of_getElem? (i := 187) rfl), List.forall_mem_cons.mpr ⟨lin_T3 _ (List.mem_of_getElem? (i := 189) rfl), List.forall_mem_cons.mpr ⟨lin_S _ (List.mem_of_getElem? (i := 36) rfl), List.forall_mem_cons.mpr ⟨lin_T3 _ (List.mem_of_getElem? (i := 190) rfl), List.forall_mem_cons.mpr ⟨lin_T3 _ (List.mem_of_getElem? (i := 191) rfl), List.forall_mem_cons.mpr ⟨lin_T4 _ (List.mem_of_getElem? (i := 221) rfl), List.forall_mem_cons.mpr ⟨lin_T4 _ (List.mem_of_getElem? (i := 222) rfl), List.forall_mem_cons.mpr ⟨lin_T4 _ (List.mem_of_getElem? (i := 223) rfl), List.forall_mem_cons.mpr ⟨lin_T4 _ (List.mem_of_getElem? (i := 224) rfl), List.forall_mem_cons.mpr ⟨lin_T4 _ (List.mem_of_getElem? (i := 225) rfl), List.forall_mem_cons.mpr ⟨lin_T4 _ (List.mem_of_getElem? (i := 227) rfl), List.forall_mem_cons.mpr ⟨lin_S _ (List.mem_of_getElem? (i := 53) rfl), List.forall_mem_cons.mpr ⟨lin_T4 _ (List.mem_of_getElem? (i := 228) rfl), List.forall_mem_cons.mpr ⟨lin_T4 _ (List.mem_of_getElem? (i := 229) rfl), fun _ h => absurd h List.not_mem_nil⟩⟩⟩⟩⟩⟩⟩⟩⟩⟩⟩⟩⟩⟩⟩⟩⟩⟩⟩⟩⟩⟩⟩⟩
set_option maxRecDepth 20000 in
theorem lin_r30 : ∀ w ∈ wsL_law_r30, w ∈ lw_tbl := List.forall_mem_cons.mpr ⟨lin_T4 _ (List.mem_of_getElem? (i := 231) rfl), List.forall_mem_cons.mpr ⟨lin_S _ (List.mem_of_getElem? (i := 54) rfl), List.forall_mem_cons.mpr ⟨lin_T4 _ (List.mem_of_getElem? (i := 232) rfl), List.forall_mem_cons.mpr ⟨lin_T4 _ (List.mem_of_getElem? (i := 233) rfl), List.forall_mem_cons.mpr ⟨lin_T4 _ (List.mem_of_getElem? (i := 235) rfl), List.forall_mem_cons.mpr ⟨lin_S _ (List.mem_of_getElem? (i := 55) rfl), List.forall_mem_cons.mpr ⟨lin_T4 _ (List.mem_of_getElem? (i := 236) rfl), List.forall_mem_cons.mpr ⟨lin_T4 _ (List.mem_of_getElem? (i := 237) rfl), List.forall_mem_cons.mpr ⟨lin_T4 _ (List.mem_of_getElem? (i := 239) rfl), List.forall_mem_cons.mpr ⟨lin_S _ (List.mem_of_getElem? (i := 56) rfl), List.forall_mem_cons.mpr ⟨lin_T5 _ (List.mem_of_getElem? (i := 0) rfl), List.forall_mem_cons.mpr ⟨lin_T5 _ (List.mem_of_getElem? (i := 1) rfl), List.forall_mem_cons.mpr ⟨lin_T5 _ (List.mem_of_getElem? (i := 3) rfl), List.forall_mem_cons.mpr ⟨lin_S _ (List.mem_of_getElem? (i := 57) rfl), List.forall_mem_cons.mpr ⟨lin_T5 _ (List.mem_of_getElem? (i := 4) rfl), List.forall_mem_cons.mpr ⟨lin_T5 _ (List.mem_of_getElem? (i := 5) rfl), List.forall_mem_cons.mpr ⟨lin_T5 _ (List.mem_of_getElem? (i := 7) rfl), List.forall_mem_cons.mpr ⟨lin_S _ (List.mem_of_getElem? (i := 58) rfl), List.forall_mem_cons.mpr ⟨lin_T5 _ (List.mem_of_getElem? (i := 8) rfl), List.forall_mem_cons.mpr ⟨lin_T5 _ (List.mem_of_getElem? (i := 9) rfl), List.forall_mem_cons.mpr ⟨lin_T5 _ (List.mem_of_getElem? (i := 11) rfl), List.forall_mem_cons.mpr ⟨lin_S _ (List.mem_of_getElem? (i := 59) rfl), List.forall_mem_cons.mpr ⟨lin_T5 _ (List.mem_of_getElem? (i := 12) rfl), List.forall_mem_cons.mpr ⟨lin_T5 _ (List.mem_of_getElem? (i := 13) rfl), fun _ h => absurd h List.not_mem_nil⟩⟩⟩⟩⟩⟩⟩⟩⟩⟩⟩⟩⟩⟩⟩⟩⟩⟩⟩⟩⟩⟩⟩⟩
set_option maxRecDepth 20000 in
theorem lin_r31 : ∀ w ∈ wsL_law_r31, w ∈ lw_tbl := List.forall_mem_cons.mpr ⟨lin_T5 _ (List.mem_of_getElem? (i := 15) rfl), List.forall_mem_cons.mpr ⟨lin_S _ (List.mem_of_getElem? (i := 60) rfl), List.forall_mem_cons.mpr ⟨lin_T5 _ (List.mem_of_getElem? (i := 16) rfl), List.forall_mem_cons.mpr ⟨lin_T3 _ (List.mem_of_getElem? (i := 192) rfl), List.forall_mem_cons.mpr ⟨lin_T3 _ (List.mem_of_getElem? (i := 193) rfl), List.forall_mem_cons.mpr ⟨lin_T3 _ (List.mem_of_getElem? (i := 194) rfl), List.forall_mem_cons.mpr ⟨lin_T3 _ (List.mem_of_getElem? (i := 195) rfl), List.forall_mem_cons.mpr ⟨lin_T3 _ (List.mem_of_getElem? (i := 196) rfl), List.forall_mem_cons.mpr ⟨lin_T3 _ (List.mem_of_getElem? (i := 197) rfl), List.forall_mem_cons.mpr ⟨lin_T3 _ (List.mem_of_getElem? (i := 198) rfl), List.forall_mem_cons.mpr ⟨lin_T5 _ (List.mem_of_getElem? (i := 17) rfl), List.forall_mem_cons.mpr ⟨lin_T5 _ (List.mem_of_getElem? (i := 18) rfl), List.forall_mem_cons.mpr ⟨lin_T5 _ (List.mem_of_getElem? (i := 19) rfl), List.forall_mem_cons.mpr ⟨lin_T5 _ (List.mem_of_getElem? (i := 20) rfl), List.forall_mem_cons.mpr ⟨lin_T3 _ (List.mem_of_getElem? (i := 199) rfl), List.forall_mem_cons.mpr ⟨lin_T3 _ (List.mem_of_getElem? (i := 200) rfl), List.forall_mem_cons.mpr ⟨lin_T3 _ (List.mem_of_getElem? (i := 201) rfl), List.forall_mem_cons.mpr ⟨lin_T3 _ (List.mem_of_getElem? (i := 202) rfl), List.forall_mem_cons.mpr ⟨lin_T3 _ (List.mem_of_getElem? (i := 203) rfl), List.forall_mem_cons.mpr ⟨lin_T3 _ (List.mem_of_getElem? (i := 204) rfl), List.forall_mem_cons.mpr ⟨lin_T3 _ (List.mem_of_getElem? (i := 205) rfl), List.forall_mem_cons.mpr ⟨lin_T3 _ (List.mem_of_getElem? (i := 206) rfl), List.forall_mem_cons.mpr ⟨lin_T3 _ (List.mem_of_getElem? (i := 207) rfl), List.forall_mem_cons.mpr ⟨lin_T5 _ (List.mem_of_getElem? (i := 21) rfl), fun _ h => absurd h List.not_mem_nil⟩⟩⟩⟩⟩⟩⟩⟩⟩⟩⟩⟩⟩⟩⟩⟩⟩⟩⟩⟩⟩⟩⟩⟩
set_option maxRecDepth 20000 in
theorem lin_r32 : ∀ w ∈ wsL_law_r32, w ∈ lw_tbl := List.forall_mem_cons.mpr ⟨lin_T5 _ (List.mem_of_getElem? (i := 22) rfl), List.forall_mem_cons.mpr ⟨lin_T5 _ (List.mem_of_getElem? (i := 23) rfl), List.forall_mem_cons.mpr ⟨lin_T5 _ (List.mem_of_getElem? (i := 24) rfl), List.forall_mem_cons.mpr ⟨lin_T3 _ (List.mem_of_getElem? (i := 208) rfl), List.forall_mem_cons.mpr ⟨lin_T3 _ (List.mem_of_getElem? (i := 209) rfl), List.forall_mem_cons.mpr ⟨lin_T3 _ (List.mem_of_getElem? (i := 210) rfl), List.forall_mem_cons.mpr ⟨lin_T3 _ (List.mem_of_getElem? (i := 211) rfl), List.forall_mem_cons.mpr ⟨lin_T3 _ (List.mem_of_getElem? (i := 212) rfl), List.forall_mem_cons.mpr ⟨lin_T3 _ (List.mem_of_getElem? (i := 213) rfl), List.forall_mem_cons.mpr ⟨lin_T3 _ (List.mem_of_getElem? (i := 214) rfl), List.forall_mem_cons.mpr ⟨lin_T3 _ (List.mem_of_getElem? (i := 215) rfl), List.forall_mem_cons.mpr ⟨lin_T3 _ (List.mem_of_getElem? (i := 216) rfl), List.forall_mem_cons.mpr ⟨lin_T3 _ (List.mem_of_getElem? (i := 217) rfl), List.forall_mem_cons.mpr ⟨lin_T3 _ (List.mem_of_getElem? (i := 218) rfl), List.forall_mem_cons.mpr ⟨lin_T3 _ (List.mem_of_getElem? (i := 219) rfl), List.forall_mem_cons.mpr ⟨lin_T3 _ (List.mem_of_getElem? (i := 220) rfl), List.forall_mem_cons.mpr ⟨lin_T3 _ (List.mem_of_getElem? (i := 221) rfl), List.forall_mem_cons.mpr ⟨lin_T3 _ (List.mem_of_getElem? (i := 222) rfl), List.forall_mem_cons.mpr ⟨lin_T3 _ (List.mem_of_getElem? (i := 223) rfl), List.forall_mem_cons.mpr ⟨lin_T3 _ (List.mem_of_getElem? (i := 224) rfl), List.forall_mem_cons.mpr ⟨lin_T3 _ (List.mem_of_getElem? (i := 225) rfl), List.forall_mem_cons.mpr ⟨lin_T3 _ (List.mem_of_getElem? (i := 226) rfl), List.forall_mem_cons.mpr ⟨lin_T5 _ (List.mem_of_getElem? (i := 25) rfl), List.forall_mem_cons.mpr ⟨lin_T5 _ (List.mem_of_getElem? (i := 26) rfl), fun _ h => absurd h List.not_mem_nil⟩⟩⟩⟩⟩⟩⟩⟩⟩⟩⟩⟩⟩⟩⟩⟩⟩⟩⟩⟩⟩⟩⟩⟩
set_option maxRecDepth 20000 in
theorem lin_r33 : ∀ w ∈ wsL_law_r33, w ∈ lw_tbl := List.forall_mem_cons.mpr ⟨lin_T5 _ (List.mem_of_getElem? (i := 27) rfl), List.forall_mem_cons.mpr ⟨lin_T5 _ (List.mem_of_getElem? (i := 28) rfl), List.forall_mem_cons.mpr ⟨lin_T3 _ (List.mem_of_getElem? (i := 227) rfl), List.forall_mem_cons.mpr ⟨lin_T3 _ (List.mem_of_getElem? (i := 228) rfl), List.forall_mem_cons.mpr ⟨lin_T3 _ (List.mem_of_getElem? (i := 229) rfl), List.forall_mem_cons.mpr ⟨lin_T3 _ (List.mem_of_getElem? (i := 230) rfl), List.forall_mem_cons.mpr ⟨lin_T3 _ (List.mem_of_getElem? (i := 231) rfl), List.forall_mem_cons.mpr ⟨lin_T3 _ (List.mem_of_getElem? (i := 232) rfl), List.forall_mem_cons.mpr ⟨lin_T3 _ (List.mem_of_getElem? (i := 233) rfl), List.forall_mem_cons.mpr ⟨lin_T3 _ (List.mem_of_getElem? (i := 234) rfl), List.forall_mem_cons.mpr ⟨lin_T5 _ (List.mem_of_getElem? (i := 29) rfl), List.forall_mem_cons.mpr ⟨lin_T5 _ (List.mem_of_getElem? (i := 30) rfl), List.forall_mem_cons.mpr ⟨lin_T5 _ (List.mem_of_getElem? (i := 31) rfl), List.forall_mem_cons.mpr ⟨lin_T5 _ (List.mem_of_getElem? (i := 32) rfl), List.forall_mem_cons.mpr ⟨lin_T3 _ (List.mem_of_getElem? (i := 235) rfl), List.forall_mem_cons.mpr ⟨lin_T3 _ (List.mem_of_getElem? (i := 236) rfl), List.forall_mem_cons.mpr ⟨lin_T3 _ (List.mem_of_getElem? (i := 237) rfl), List.forall_mem_cons.mpr ⟨lin_T3 _ (List.mem_of_getElem? (i := 238) rfl), List.forall_mem_cons.mpr ⟨lin_T3 _ (List.mem_of_getElem? (i := 239) rfl), List.forall_mem_cons.mpr ⟨lin_T4 _ (List.mem_of_getElem? (i := 1) rfl), List.forall_mem_cons.mpr ⟨lin_S _ (List.mem_of_getElem? (i := 37) rfl), List.forall_mem_cons.mpr ⟨lin_T4 _ (List.mem_of_getElem? (i := 2) rfl), List.forall_mem_cons.mpr ⟨lin_T4 _ (List.mem_of_getElem? (i := 3) rfl), List.forall_mem_cons.mpr ⟨lin_T4 _ (List.mem_of_getElem? (i := 4) rfl), fun _ h => absurd h List.not_mem_nil⟩⟩⟩⟩⟩⟩⟩⟩⟩⟩⟩⟩⟩⟩⟩⟩⟩⟩⟩⟩⟩⟩⟩⟩
set_option maxRecDepth 20000 in
theorem lin_r34 : ∀ w ∈ wsL_law_r34, w ∈ lw_tbl := List.forall_mem_cons.mpr ⟨lin_T4 _ (List.mem_of_getElem? (i := 5) rfl), List.forall_mem_cons.mpr ⟨lin_T4 _ (List.mem_of_getElem? (i := 6) rfl), List.forall_mem_cons.mpr ⟨lin_T4 _ (List.mem_of_getElem? (i := 7) rfl), List.forall_mem_cons.mpr ⟨lin_T5 _ (List.mem_of_getElem? (i := 33) rfl), List.forall_mem_cons.mpr ⟨lin_T5 _ (List.mem_of_getElem? (i := 34) rfl), List.forall_mem_cons.mpr ⟨lin_T5 _ (List.mem_of_getElem? (i := 35) rfl), List.forall_mem_cons.mpr ⟨lin_T5 _ (List.mem_of_getElem? (i := 36) rfl), fun _ h => absurd h List.not_mem_nil⟩⟩⟩⟩⟩⟩⟩
set_option maxRecDepth 20000 in
theorem lin_X7 : ∀ w ∈ wsX70, w ∈ lw_tbl := List.forall_mem_cons.mpr ⟨lin_T1 _ (List.mem_of_getElem? (i := 219) rfl), List.forall_mem_cons.mpr ⟨lin_T1 _ (List.mem_of_getElem? (i := 221) rfl), List.forall_mem_cons.mpr ⟨lin_T1 _ (List.mem_of_getElem? (i := 223) rfl), List.forall_mem_cons.mpr ⟨lin_T1 _ (List.mem_of_getElem? (i := 225) rfl), List.forall_mem_cons.mpr ⟨lin_T1 _ (List.mem_of_getElem? (i := 227) rfl), List.forall_mem_cons.mpr ⟨lin_T1 _ (List.mem_of_getElem? (i := 229) rfl), List.forall_mem_cons.mpr ⟨lin_T1 _ (List.mem_of_getElem? (i := 231) rfl), List.forall_mem_cons.mpr ⟨lin_T1 _ (List.mem_of_getElem? (i := 233) rfl), List.forall_mem_cons.mpr ⟨lin_T1 _ (List.mem_of_getElem? (i := 235) rfl), fun _ h => absurd h List.not_mem_nil⟩⟩⟩⟩⟩⟩⟩⟩⟩
set_option maxRecDepth 20000 in
theorem lin_X8 : ∀ w ∈ wsX80, w ∈ lw_tbl := List.forall_mem_cons.mpr ⟨lin_T4 _ (List.mem_of_getElem? (i := 45) rfl), List.forall_mem_cons.mpr ⟨lin_T4 _ (List.mem_of_getElem? (i := 47) rfl), List.forall_mem_cons.mpr ⟨lin_T4 _ (List.mem_of_getElem? (i := 49) rfl), List.forall_mem_cons.mpr ⟨lin_T4 _ (List.mem_of_getElem? (i := 51) rfl), List.forall_mem_cons.mpr ⟨lin_T4 _ (List.mem_of_getElem? (i := 53) rfl), List.forall_mem_cons.mpr ⟨lin_T4 _ (List.mem_of_getElem? (i := 55) rfl), List.forall_mem_cons.mpr ⟨lin_T4 _ (List.mem_of_getElem? (i := 57) rfl), List.forall_mem_cons.mpr ⟨lin_T4 _ (List.mem_of_getElem? (i := 59) rfl), List.forall_mem_cons.mpr ⟨lin_T4 _ (List.mem_of_getElem? (i := 61) rfl), List.forall_mem_cons.mpr ⟨lin_T4 _ (List.mem_of_getElem? (i := 63) rfl), List.forall_mem_cons.mpr ⟨lin_T4 _ (List.mem_of_getElem? (i := 65) rfl), List.forall_mem_cons.mpr ⟨lin_T4 _ (List.mem_of_getElem? (i := 67) rfl), List.forall_mem_cons.mpr ⟨lin_T4 _ (List.mem_of_getElem? (i := 69) rfl), List.forall_mem_cons.mpr ⟨lin_T4 _ (List.mem_of_getElem? (i := 71) rfl), List.forall_mem_cons.mpr ⟨lin_T4 _ (List.mem_of_getElem? (i := 73) rfl), List.forall_mem_cons.mpr ⟨lin_T4 _ (List.mem_of_getElem? (i := 75) rfl), List.forall_mem_cons.mpr ⟨lin_T4 _ (List.mem_of_getElem? (i := 77) rfl), List.forall_mem_cons.mpr ⟨lin_T4 _ (List.mem_of_getElem? (i := 79) rfl), List.forall_mem_cons.mpr ⟨lin_T4 _ (List.mem_of_getElem? (i := 81) rfl), List.forall_mem_cons.mpr ⟨lin_T4 _ (List.mem_of_getElem? (i := 83) rfl), List.forall_mem_cons.mpr ⟨lin_T4 _ (List.mem_of_getElem? (i := 85) rfl), List.forall_mem_cons.mpr ⟨lin_T4 _ (List.mem_of_getElem? (i := 87) rfl), List.forall_mem_cons.mpr ⟨lin_T4 _ (List.mem_of_getElem? (i := 89) rfl), List.forall_mem_cons.mpr ⟨lin_T4 _ (List.mem_of_getElem? (i := 91) rfl), List.forall_mem_cons.mpr ⟨lin_T4 _ (List.mem_of_getElem? (i := 93) rfl), List.forall_mem_cons.mpr ⟨lin_T4 _ (List.mem_of_getElem? (i := 95) rfl), List.forall_mem_cons.mpr ⟨lin_T4 _ (List.mem_of_getElem? (i := 97) rfl), List.forall_mem_cons.mpr ⟨lin_T4 _ (List.mem_of_getElem? (i := 99) rfl), List.forall_mem_cons.mpr ⟨lin_T4 _ (List.mem_of_getElem? (i := 101) rfl), List.forall_mem_cons.mpr ⟨lin_T4 _ (List.mem_of_getElem? (i := 103) rfl), fun _ h => absurd h List.not_mem_nil⟩⟩⟩⟩⟩⟩⟩⟩⟩⟩⟩⟩⟩⟩⟩⟩⟩⟩⟩⟩⟩⟩⟩⟩⟩⟩⟩⟩⟩⟩
set_option maxRecDepth 20000 in
theorem lin_X1 : ∀ w ∈ wsX10, w ∈ lw_tbl := List.forall_mem_cons.mpr ⟨lin_T1 _ (List.mem_of_getElem? (i := 39) rfl), List.forall_mem_cons.mpr ⟨lin_T1 _ (List.mem_of_getElem? (i := 41) rfl), List.forall_mem_cons.mpr ⟨lin_T1 _ (List.mem_of_getElem? (i := 43) rfl), List.forall_mem_cons.mpr ⟨lin_T1 _ (List.mem_of_getElem? (i := 45) rfl), List.forall_mem_cons.mpr ⟨lin_T1 _ (List.mem_of_getElem? (i := 47) rfl), fun _ h => absurd h List.not_mem_nil⟩⟩⟩⟩⟩
set_option maxRecDepth 20000 in
theorem lin_X2 : ∀ w ∈ wsX20, w ∈ lw_tbl := List.forall_mem_cons.mpr ⟨lin_T1 _ (List.mem_of_getElem? (i := 63) rfl), List.forall_mem_cons.mpr ⟨lin_T1 _ (List.mem_of_getElem? (i := 65) rfl), List.forall_mem_cons.mpr ⟨lin_T1 _ (List.mem_of_getElem? (i := 67) rfl), fun _ h => absurd h List.not_mem_nil⟩⟩⟩
set_option maxRecDepth 20000 in
theorem lin_X3 : ∀ w ∈ wsX30, w ∈ lw_tbl := List.forall_mem_cons.mpr ⟨lin_T1 _ (List.mem_of_getElem? (i := 110) rfl), List.forall_mem_cons.mpr ⟨lin_T1 _ (List.mem_of_getElem? (i := 112) rfl), List.forall_mem_cons.mpr ⟨lin_T1 _ (List.mem_of_getElem? (i := 114) rfl), List.forall_mem_cons.mpr ⟨lin_T1 _ (List.mem_of_getElem? (i := 116) rfl), List.forall_mem_cons.mpr ⟨lin_T1 _ (List.mem_of_getElem? (i := 118) rfl), List.forall_mem_cons.mpr ⟨lin_T1 _ (List.mem_of_getElem? (i := 120) rfl), List.forall_mem_cons.mpr ⟨lin_T1 _ (List.mem_of_getElem? (i := 122) rfl), List.forall_mem_cons.mpr ⟨lin_T1 _ (List.mem_of_getElem? (i := 124) rfl), List.forall_mem_cons.mpr ⟨lin_T1 _ (List.mem_of_getElem? (i := 126) rfl), List.forall_mem_cons.mpr ⟨lin_T1 _ (List.mem_of_getElem? (i := 128) rfl), List.forall_mem_cons.mpr ⟨lin_T1 _ (List.mem_of_getElem? (i := 130) rfl), List.forall_mem_cons.mpr ⟨lin_T1 _ (List.mem_of_getElem? (i := 132) rfl), List.forall_mem_cons.mpr ⟨lin_T1 _ (List.mem_of_getElem? (i := 134) rfl), List.forall_mem_cons.mpr ⟨lin_T1 _ (List.mem_of_getElem? (i := 136) rfl), fun _ h => absurd h List.not_mem_nil⟩⟩⟩⟩⟩⟩⟩⟩⟩⟩⟩⟩⟩⟩
set_option maxRecDepth 20000 in
theorem lin_X0 : ∀ w ∈ wsX00, w ∈ lw_tbl := List.forall_mem_cons.mpr ⟨lin_T1 _ (List.mem_of_getElem? (i := 152) rfl), List.forall_mem_cons.mpr ⟨lin_T1 _ (List.mem_of_getElem? (i := 154) rfl), List.forall_mem_cons.mpr ⟨lin_T1 _ (List.mem_of_getElem? (i := 156) rfl), List.forall_mem_cons.mpr ⟨lin_T1 _ (List.mem_of_getElem? (i := 158) rfl), List.forall_mem_cons.mpr ⟨lin_T1 _ (List.mem_of_getElem? (i := 160) rfl), List.forall_mem_cons.mpr ⟨lin_T1 _ (List.mem_of_getElem? (i := 162) rfl), fun _ h => absurd h List.not_mem_nil⟩⟩⟩⟩⟩⟩
set_option maxRecDepth 20000 in
theorem lin_X6 : ∀ w ∈ wsX60, w ∈ lw_tbl := List.forall_mem_cons.mpr ⟨lin_T1 _ (List.mem_of_getElem? (i := 178) rfl), List.forall_mem_cons.mpr ⟨lin_T1 _ (List.mem_of_getElem? (i := 180) rfl), List.forall_mem_cons.mpr ⟨lin_T1 _ (List.mem_of_getElem? (i := 182) rfl), List.forall_mem_cons.mpr ⟨lin_T1 _ (List.mem_of_getElem? (i := 184) rfl), List.forall_mem_cons.mpr ⟨lin_T1 _ (List.mem_of_getElem? (i := 186) rfl), List.forall_mem_cons.mpr ⟨lin_T1 _ (List.mem_of_getElem? (i := 188) rfl), fun _ h => absurd h List.not_mem_nil⟩⟩⟩⟩⟩⟩
set_option maxRecDepth 20000 in
theorem lin_X5 : ∀ w ∈ wsX50, w ∈ lw_tbl := List.forall_mem_cons.mpr ⟨lin_T1 _ (List.mem_of_getElem? (i := 201) rfl), List.forall_mem_cons.mpr ⟨lin_T1 _ (List.mem_of_getElem? (i := 203) rfl), List.forall_mem_cons.mpr ⟨lin_T1 _ (List.mem_of_getElem? (i := 205) rfl), List.forall_mem_cons.mpr ⟨lin_T1 _ (List.mem_of_getElem? (i := 207) rfl), fun _ h => absurd h List.not_mem_nil⟩⟩⟩⟩
theorem wsL_law_in : ∀ w ∈ wsL_law, w ∈ lw_tbl := by
  unfold wsL_law
  exact List.forall_mem_append.mpr ⟨List.forall_mem_append.mpr ⟨List.forall_mem_append.mpr ⟨List.forall_mem_append.mpr ⟨List.forall_mem_append.mpr ⟨List.forall_mem_append.mpr ⟨List.forall_mem_append.mpr ⟨List.forall_mem_append.mpr ⟨List.forall_mem_append.mpr ⟨List.forall_mem_append.mpr ⟨lin_r1, List.forall_mem_append.mpr ⟨lin_r2, List.forall_mem_append.mpr ⟨lin_r3, List.forall_mem_append.mpr ⟨lin_r4, List.forall_mem_append.mpr ⟨lin_r5, List.forall_mem_append.mpr ⟨lin_r6, List.forall_mem_append.mpr ⟨lin_r7, List.forall_mem_append.mpr ⟨lin_r8, List.forall_mem_append.mpr ⟨lin_r9, List.forall_mem_append.mpr ⟨lin_r10, List.forall_mem_append.mpr ⟨lin_r11, List.forall_mem_append.mpr ⟨lin_r12, List.forall_mem_append.mpr ⟨lin_r13, List.forall_mem_append.mpr ⟨lin_r14, List.forall_mem_append.mpr ⟨lin_r15, List.forall_mem_append.mpr ⟨lin_r16, List.forall_mem_append.mpr ⟨lin_r17, List.forall_mem_append.mpr ⟨lin_r18, List.forall_mem_append.mpr ⟨lin_r19, List.forall_mem_append.mpr ⟨lin_r20, List.forall_mem_append.mpr ⟨lin_r21, List.forall_mem_append.mpr ⟨lin_r22, List.forall_mem_append.mpr ⟨lin_r23, List.forall_mem_append.mpr ⟨lin_r24, List.forall_mem_append.mpr ⟨lin_r25, List.forall_mem_append.mpr ⟨lin_r26, List.forall_mem_append.mpr ⟨lin_r27, List.forall_mem_append.mpr ⟨lin_r28, List.forall_mem_append.mpr ⟨lin_r29, List.forall_mem_append.mpr ⟨lin_r30, List.forall_mem_append.mpr ⟨lin_r31, List.forall_mem_append.mpr ⟨lin_r32, List.forall_mem_append.mpr ⟨lin_r33, lin_r34⟩⟩⟩⟩⟩⟩⟩⟩⟩⟩⟩⟩⟩⟩⟩⟩⟩⟩⟩⟩⟩⟩⟩⟩⟩⟩⟩⟩⟩⟩⟩⟩⟩, lin_X7⟩, lin_X8⟩, lin_X1⟩, lin_X2⟩, lin_X3⟩, lin_X0⟩, lin_X6⟩, lin_X5⟩, fun _ h => absurd h List.not_mem_nil⟩
end
section
theorem inlX0 : ∀ w ∈ wsX00, w ∈ wsL_law := fun _ h => List.mem_append_left _ (List.mem_append_left _ (List.mem_append_left _ (List.mem_append_right _ h)))
theorem inX0 : ∀ w ∈ wsX00, w ∈ lw_tbl := fun w h => wsL_law_in w (inlX0 w h)
theorem inlX1 : ∀ w ∈ wsX10, w ∈ wsL_law := fun _ h => List.mem_append_left _ (List.mem_append_left _ (List.mem_append_left _ (List.mem_append_left _ (List.mem_append_left _ (List.mem_append_left _ (List.mem_append_right _ h))))))
theorem inX1 : ∀ w ∈ wsX10, w ∈ lw_tbl := fun w h => wsL_law_in w (inlX1 w h)
theorem inlX2 : ∀ w ∈ wsX20, w ∈ wsL_law := fun _ h => List.mem_append_left _ (List.mem_append_left _ (List.mem_append_left _ (List.mem_append_left _ (List.mem_append_left _ (List.mem_append_right _ h)))))
theorem inX2 : ∀ w ∈ wsX20, w ∈ lw_tbl := fun w h => wsL_law_in w (inlX2 w h)
theorem inlX3 : ∀ w ∈ wsX30, w ∈ wsL_law := fun _ h => List.mem_append_left _ (List.mem_append_left _ (List.mem_append_left _ (List.mem_append_left _ (List.mem_append_right _ h))))
theorem inX3 : ∀ w ∈ wsX30, w ∈ lw_tbl := fun w h => wsL_law_in w (inlX3 w h)
theorem inX4 : ∀ w ∈ wsX40, w ∈ lw_tbl := by decide +kernel
theorem inlX5 : ∀ w ∈ wsX50, w ∈ wsL_law := fun _ h => List.mem_append_left _ (List.mem_append_right _ h)
theorem inX5 : ∀ w ∈ wsX50, w ∈ lw_tbl := fun w h => wsL_law_in w (inlX5 w h)
theorem inlX6 : ∀ w ∈ wsX60, w ∈ wsL_law := fun _ h => List.mem_append_left _ (List.mem_append_left _ (List.mem_append_right _ h))
theorem inX6 : ∀ w ∈ wsX60, w ∈ lw_tbl := fun w h => wsL_law_in w (inlX6 w h)
theorem inlX7 : ∀ w ∈ wsX70, w ∈ wsL_law := fun _ h => List.mem_append_left _ (List.mem_append_left _ (List.mem_append_left _ (List.mem_append_left _ (List.mem_append_left _ (List.mem_append_left _ (List.mem_append_left _ (List.mem_append_left _ (List.mem_append_right _ h))))))))
theorem inX7 : ∀ w ∈ wsX70, w ∈ lw_tbl := fun w h => wsL_law_in w (inlX7 w h)
theorem inlX8 : ∀ w ∈ wsX80, w ∈ wsL_law := fun _ h => List.mem_append_left _ (List.mem_append_left _ (List.mem_append_left _ (List.mem_append_left _ (List.mem_append_left _ (List.mem_append_left _ (List.mem_append_left _ (List.mem_append_right _ h)))))))
theorem inX8 : ∀ w ∈ wsX80, w ∈ lw_tbl := fun w h => wsL_law_in w (inlX8 w h)
theorem inJ6 : ∀ w ∈ wsJ60, w ∈ lw_tbl := by decide +kernel
theorem inJ9 : ∀ w ∈ wsJ90, w ∈ lw_tbl := by decide +kernel
theorem inJ10 : ∀ w ∈ wsJ100, w ∈ lw_tbl := by decide +kernel
theorem inJ7 : ∀ w ∈ wsJ70, w ∈ lw_tbl := by decide +kernel
abbrev vwCl : List vw_C := [(RX0, TX0, 6), (RX1, TX1, 5), (RX2, TX2, 3), (RX3, TX3, 14), (RX5, TX5, 4), (RX6, TX6, 6), (RX7, TX7, 9), (RX8, TX8, 30)]
end
section
/-- the row of zeros -/
def zf : Nat → Int32 := fun _ => 0
theorem zf_at (k : Nat) : zf k = 0 := rfl
theorem zf_upd (k : Nat) : upd zf k 0 = zf := funext fun j => by
  unfold upd zf
  split <;> rfl
theorem zf_updB (k : Nat) : upd zf k (vp_nar .byte 0) = zf := zf_upd k
theorem zf_updZ (k : Nat) : upd zf k (vp_nar .boolean 0) = zf := zf_upd k
/-- every value of the row is a byte -/
def FB (f : Nat → Int32) : Prop := ∀ k, fits .byte (.int (f k)) = true
theorem FB_zf : FB zf := fun _ => rfl
theorem FB_upd {f : Nat → Int32} (h : FB f) (k : Nat) (x : Int32) : FB (upd f k (vp_nar .byte x)) := fun j => by
  unfold upd
  split
  · rw [vp_nar_byte]; exact pk_fb x
  · exact h j
theorem FB_cpy {f g : Nat → Int32} (hf : FB f) (hg : FB g) (a b n : Nat) : FB (va_cpy f g a b n) := fun j => by
  unfold va_cpy
  split
  · exact hf _
  · exact hg _
theorem ti_lo (x : Int32) : -2147483648 ≤ x.toInt := Int32.le_toInt x
theorem ti_hi (x : Int32) : x.toInt ≤ 2147483647 := Int32.toInt_le x
theorem ti_bm {a : Int} (h1 : -2147483648 ≤ a) (h2 : a ≤ 2147483647) : a.bmod 4294967296 = a := by
  rw [Int.bmod_def]
  omega
theorem ti_add {x y : Int32} {a b : Int} (hx : x.toInt = a) (hy : y.toInt = b) (h1 : -2147483648 ≤ a + b) (h2 : a + b ≤ 2147483647) : (x + y).toInt = a + b := by
  rw [Int32.toInt_add, hx, hy]
  exact ti_bm h1 h2
theorem ti_sub {x y : Int32} {a b : Int} (hx : x.toInt = a) (hy : y.toInt = b) (h1 : -2147483648 ≤ a - b) (h2 : a - b ≤ 2147483647) : (x - y).toInt = a - b := by
  rw [Int32.toInt_sub, hx, hy]
  exact ti_bm h1 h2
theorem ti_mul {x y : Int32} {a b : Int} (hx : x.toInt = a) (hy : y.toInt = b) (h1 : -2147483648 ≤ a * b) (h2 : a * b ≤ 2147483647) : (x * y).toInt = a * b := by
  rw [Int32.toInt_mul, hx, hy]
  exact ti_bm h1 h2
theorem ti_lt {x y : Int32} {a b : Int} (hx : x.toInt = a) (hy : y.toInt = b) : x < y ↔ a < b := by rw [Int32.lt_iff_toInt_lt, hx, hy]
theorem ti_le {x y : Int32} {a b : Int} (hx : x.toInt = a) (hy : y.toInt = b) : x ≤ y ↔ a ≤ b := by rw [Int32.le_iff_toInt_le, hx, hy]
theorem ti_eq {x y : Int32} {a b : Int} (hx : x.toInt = a) (hy : y.toInt = b) : x = y ↔ a = b := by rw [← Int32.toInt_inj, hx, hy]
theorem ti_inj {x y : Int32} {a : Int} (hy : y.toInt = a) (hx : x.toInt = a) : x = y := (ti_eq hx hy).mpr rfl
theorem ti_in {x : Int32} {n : Nat} {a : Int} (hx : x.toInt = a) (h1 : 0 ≤ a) (h2 : a < n) : vp_in x n := vp_in_iff.mpr (by rw [hx]; exact ⟨h1, h2⟩)
/-- the words of nest mates: fields and methods of one nest's classes -/
def nkF : List (String × Nat × String × String × String) := [("AgedLog", 115, "AgedLog$Regions", "number", "I"), ("AgedLog", 139, "AgedLog$Disk", "row", "[B"), ("AgedLog", 176, "AgedLog$Disk", "written", "I"), ("AgedLog", 182, "AgedLog$Log", "nextSequence", "I"), ("AgedLog", 185, "AgedLog$Log", "open", "I"), ("AgedLog", 188, "AgedLog$Log", "place", "I"), ("AgedLog", 194, "AgedLog$Index", "count", "I"), ("AgedLog", 78, "AgedLog$Log", "clock", "I"), ("AgedLog", 92, "AgedLog$Log", "memory", "[B"), ("AgedLog$Cleaner", 113, "AgedLog$Log", "open", "I"), ("AgedLog$Cleaner", 116, "AgedLog$Log", "place", "I"), ("AgedLog$Cleaner", 122, "AgedLog$Log", "memory", "[B"), ("AgedLog$Cleaner", 95, "AgedLog$Log", "clock", "I"), ("AgedLog$Log", 159, "AgedLog$Disk", "row", "[B"), ("AgedLog$Recovery", 113, "AgedLog$Log", "order", "I"), ("AgedLog$Recovery", 116, "AgedLog$Disk", "row", "[B"), ("AgedLog$Recovery", 128, "AgedLog$Log", "nextSequence", "I"), ("AgedLog$Recovery", 134, "AgedLog$Log", "clock", "I"), ("AgedLog$Recovery", 89, "AgedLog$Log", "open", "I"), ("AgedLog$Recovery", 93, "AgedLog$Log", "place", "I"), ("AgedLog$Regions", 103, "AgedLog$Disk", "row", "[B"), ("AgedLog$Regions", 56, "AgedLog$Log", "nextSequence", "I"), ("AgedLog$Regions", 61, "AgedLog$Log", "clock", "I"), ("AgedLog$Regions", 64, "AgedLog$Log", "open", "I"), ("AgedLog$Regions", 67, "AgedLog$Log", "place", "I"), ("AgedLog$Regions", 70, "AgedLog$Log", "order", "I"), ("AgedLog$Regions", 73, "AgedLog$Index", "count", "I")]
def nkM : List (String × Nat × MethodName) := [("AgedLog", 18, yX2_init), ("AgedLog", 9, yX1_init), ("AgedLog$Index", 22, yX7_isKey), ("AgedLog$Index", 26, yX7_isOfLog), ("AgedLog$Log", 65, yX7_isOfLog), ("AgedLog$Recovery", 162, yX7_isOfLog), ("AgedLog$Recovery", 165, yX7_isKey), ("AgedLog$Regions", 123, yX7_isOfLog), ("AgedLog$Regions", 126, yX7_isKey)]
def NW (U : State) : Prop := (∀ q ∈ nkF, va_Nw (.fieldLinkNest q.1 q.2.1 q.2.2.1 q.2.2.2.1 q.2.2.2.2 "AgedLog") U) ∧ ∀ q ∈ nkM, va_Nw (.methodLinkNest q.1 q.2.1 q.2.2 "AgedLog") U
theorem NW.same {u U : State} (h : u.vm = U.vm) (hN : NW u) : NW U := ⟨fun q hq => va_Nw.same rfl h (hN.1 q hq), fun q hq => va_Nw.same rfl h (hN.2 q hq)⟩
theorem NW.warm {s U : State} (hW : s.WarmedH U.vm) (hN : NW s) : NW U := ⟨fun q hq => va_Nw.warmF hW (hN.1 q hq), fun q hq => va_Nw.warmM hW (hN.2 q hq)⟩
theorem NW.f {U : State} (hN : NW U) {a : String} {i : Nat} {b n d : String} (h : (a, i, b, n, d) ∈ nkF) {A : Array Value} : (Cond.fieldLinkNest a i b n d "AgedLog").before A U = true := va_Nw.use rfl (hN.1 (a, i, b, n, d) h)
theorem NW.m {U : State} (hN : NW U) {a : String} {i : Nat} {y : MethodName} (h : (a, i, y) ∈ nkM) : va_Nw (.methodLinkNest a i y "AgedLog") U := hN.2 (a, i, y) h
abbrev TY (cB cI cZ : ClassId) : List (ClassId × FieldType) := [(cB, .byte), (cI, .int), (cZ, .boolean)]
/-- a contract's start, and the world at its end -/
abbrev PcK (D : va_G) (cB cI cZ : ClassId) (av : List Value) (W0 : va_W) (sz : Nat) : Array Value → State → Prop := va_Pc av (fun U => U.heap.size = sz ∧ va_P D vwCl W0 U.heap ∧ (va_K D vwCl (TY cB cI cZ) U ∧ NW U) ∧ va_D (fun _ => True) W0)
abbrev EB (D : va_G) (A : Nat → Prop) (W1 : va_W) (t : State) : Prop := va_P D vwCl W1 t.heap ∧ va_D A W1
abbrev CtI {S : Type} (l : Launch) (D : va_G) (cB cI cZ : ClassId) (y : MethodName) (ws : List Cond) (rm : Room) (av : List Value) (W0 : va_W) (sz mc ms : Nat) (post : Int32 → S → Prop) (W1 : S → va_W) : Prop :=
  Met l y ws rm (PcK D cB cI cZ av W0 sz) (va_Qi post (fun u t => EB D (va_A W0 sz) (W1 u) t) (va_A W0 sz)) mc ms (va_A W0 sz)
abbrev CtV {S : Type} (l : Launch) (D : va_G) (cB cI cZ : ClassId) (y : MethodName) (ws : List Cond) (rm : Room) (av : List Value) (W0 : va_W) (sz mc ms : Nat) (post : S → Prop) (W1 : S → va_W) : Prop :=
  Met l y ws rm (PcK D cB cI cZ av W0 sz) (va_Qv post (fun u t => EB D (va_A W0 sz) (W1 u) t) (va_A W0 sz)) mc ms (va_A W0 sz)
section TMET
variable {l : Launch} {D : va_G} {cB cI cZ : ClassId} {y : MethodName} {ws ws' : List Cond} {rm : Room} {av : List Value} {W0 : va_W} {sz mc ms : Nat} {cc : ByteArray} {maxL : Nat} {ret : Option FieldType}
/-- a contract out of a walk from the method's first instruction -/
theorem mk_met {Qc : (Nat → Prop) → Array Value → State → Outcome → State → Prop} (hy : plainName y.cls = true) (hw : ws = Cond.code y cc maxL ret :: ws') (hav : (lg_sl av).length ≤ maxL)
    (body : ∀ (p : Program) (e : Env) (s : State) (m : MethodId) (below : List Frame) (meth : Method) (c : Code) (A : Nat → Prop), p.tables.exec = Jvm.exec → c.code = cc → meth.sig.returnType = ret → c.maxLocals = maxL → (∀ w ∈ ws, w.before av.toArray s = true) → s.vm.findClass y.cls = some m.cls → meth.locks = false → meth.name = y.name → va_P D vwCl W0 s.heap → va_K D vwCl (TY cB cI cZ) s → NW s → va_D A W0 → (∀ q : Nat, s.heap.size ≤ q → A q) → va_S A s.heap s.heap [] →
      ∀ ls : Array Slot, lv_has ls maxL (lv_args 0 av) → W p l e rm s m av.toArray below meth c s.heap [] 0 0 (MQ below (Qc A) av.toArray s mc ms A) (F0 m 0 ls [])) :
    Met l y ws rm (PcK D cB cI cZ av W0 sz) (Qc (va_A W0 sz)) mc ms (va_A W0 sz) := by
  refine Met.ofW (cc := cc) (maxL := maxL) (ret := ret) hy hw ?_
  intro p e s m args below meth c s₁ B hml hv
  obtain ⟨rfl, hsz, hP, ⟨hK, hN⟩, hD0⟩ := hv
  subst hsz
  have hl := lv_entry av (n := maxL) hav
  rw [lg_entry_eq]
  exact body p e s m below meth c (va_A W0 s.heap.size) B.exec B.bytes B.returns hml (atoms_spec (ws := ws) B.pre) (findClass_of_methodNamed B.named) B.notSynchronized (name_of_methodNamed B.named B.method).1 hP hK hN hD0.self (fun q h => Or.inr h) va_S.rf _ hl
theorem mk_metI {S : Type} {post : Int32 → S → Prop} {W1 : S → va_W} (hy : plainName y.cls = true) (hw : ws = Cond.code y cc maxL ret :: ws') (hav : (lg_sl av).length ≤ maxL)
    (body : ∀ (p : Program) (e : Env) (s : State) (m : MethodId) (below : List Frame) (meth : Method) (c : Code) (A : Nat → Prop), p.tables.exec = Jvm.exec → c.code = cc → meth.sig.returnType = ret → c.maxLocals = maxL → (∀ w ∈ ws, w.before av.toArray s = true) → s.vm.findClass y.cls = some m.cls → meth.locks = false → meth.name = y.name → va_P D vwCl W0 s.heap → va_K D vwCl (TY cB cI cZ) s → NW s → va_D A W0 → (∀ q : Nat, s.heap.size ≤ q → A q) → va_S A s.heap s.heap [] →
      ∀ ls : Array Slot, lv_has ls maxL (lv_args 0 av) → W p l e rm s m av.toArray below meth c s.heap [] 0 0 (MQ below (va_Qi post (fun u t => EB D A (W1 u) t) A) av.toArray s mc ms A) (F0 m 0 ls [])) :
    CtI l D cB cI cZ y ws rm av W0 sz mc ms post W1 := mk_met (Qc := fun A => va_Qi post (fun u t => EB D A (W1 u) t) A) hy hw hav body
theorem mk_metV {S : Type} {post : S → Prop} {W1 : S → va_W} (hy : plainName y.cls = true) (hw : ws = Cond.code y cc maxL ret :: ws') (hav : (lg_sl av).length ≤ maxL)
    (body : ∀ (p : Program) (e : Env) (s : State) (m : MethodId) (below : List Frame) (meth : Method) (c : Code) (A : Nat → Prop), p.tables.exec = Jvm.exec → c.code = cc → meth.sig.returnType = ret → c.maxLocals = maxL → (∀ w ∈ ws, w.before av.toArray s = true) → s.vm.findClass y.cls = some m.cls → meth.locks = false → meth.name = y.name → va_P D vwCl W0 s.heap → va_K D vwCl (TY cB cI cZ) s → NW s → va_D A W0 → (∀ q : Nat, s.heap.size ≤ q → A q) → va_S A s.heap s.heap [] →
      ∀ ls : Array Slot, lv_has ls maxL (lv_args 0 av) → W p l e rm s m av.toArray below meth c s.heap [] 0 0 (MQ below (va_Qv post (fun u t => EB D A (W1 u) t) A) av.toArray s mc ms A) (F0 m 0 ls [])) :
    CtV l D cB cI cZ y ws rm av W0 sz mc ms post W1 := mk_met (Qc := fun A => va_Qv post (fun u t => EB D A (W1 u) t) A) hy hw hav body
end TMET
section TPRE
variable {s : State} {H : Heap} {D : va_G} {cB cI cZ : ClassId} {wc : va_W} {As : List Value} {A : Nat → Prop}
theorem pre_S (hP : va_P D vwCl wc H) (hK : va_K D vwCl (TY cB cI cZ) s) (hN : NW s) (hD : va_D A wc) : PreS s H (PcK D cB cI cZ As wc H.size) As :=
  ⟨fun a U g mk q => by
    obtain ⟨q0, q1, qP, ⟨qK, qN⟩, qD⟩ := q
    exact ⟨q0, q1, qP, ⟨va_K.moved (u := U) (U := U.calling g mk a) (Vm.Alike.refl U.vm) qK, qN.same rfl⟩, qD⟩, fun U hU hW => ⟨rfl, by rw [hU], by rw [hU]; exact hP, ⟨va_K.moved hW.alike hK, hN.warm hW⟩, hD.weaken (fun _ _ _ _ => trivial)⟩⟩
theorem pre_V {a q0 ci : Nat} {q : vw_C} {fs : List Value} (hP : va_P D vwCl wc H) (hK : va_K D vwCl (TY cB cI cZ) s) (hN : NW s) (hD : va_D A wc) (hc : vwCl[ci]? = some q) (he : wc[q0]? = some (a, .inr (ci, fs))) : PreV s H q.1 a (PcK D cB cI cZ (.ref a :: As) wc H.size) As :=
  ⟨(pre_S (As := .ref a :: As) hP hK hN hD).1, va_recv hK hP hc he, (pre_S (As := .ref a :: As) hP hK hN hD).2⟩
end TPRE
section TCALL
variable {p : Program} {l : Launch} {e : Env} {R : Room} {s : State} {m : MethodId} {args : Array Value} {below : List Frame} {meth : Method} {c : Code} {H : Heap} {locs : List Loc} {cells slots : Nat} {Q : State → Prop}
variable {pc : Nat} {ls : Array Slot} {rest st0 : List Value} {a : Array Value} {A : Nat → Prop} {H0 : Heap} {mc ms : Nat} {D : va_G} {wc ws wr : va_W}
theorem kc_i {S : Type} {post : Int32 → S → Prop} {W1 : S → va_W} (hr : va_Run p l e R s m args below meth c H locs cells slots 0 0 (F0 m pc ls st0) rest (va_Qi post (fun u t => EB D (va_A wc H.size) (W1 u) t) (va_A wc H.size) a) (va_A wc H.size))
    (hP : va_P D vwCl ws H) (hD : va_D A ws) (hS : va_S A H0 H locs) (hA : ∀ q, H0.size ≤ q → A q) (isC isR : List Nat) (hC : isC.map (fun i => ws[i]?) = wc.map some) (hR : isR.map (fun i => ws[i]?) = wr.map some) (hn : va_nd isR = true) (hdis : ∀ i ∈ isR, i ∉ isC)
    (kk : ∀ (r : Int32) (u : S) (H1 : Heap) (locs1 : List Loc), post r u → va_P D vwCl (wr ++ W1 u) H1 → va_D A (wr ++ W1 u) → va_S A H0 H1 locs1 → W p l e R s m args below meth c H1 locs1 cells slots Q (F0 m (pc + 3) ls (.int r :: rest))) : W p l e R s m args below meth c H locs cells slots Q (F0 m pc ls st0) := by
  have hFc := va_free hD hS hA isC hC
  refine va_calli hr hS (fun q _ h => hFc q h) hFc (fun r u t H1 locs1 ht hvm hw hB hz1 hk1 hS1 => ?_)
  obtain ⟨hP1, hD1⟩ := hB
  rw [ht] at hP1
  obtain ⟨hP2, hD2⟩ := va_join hP hD isC isR hC hR hn hdis hk1 hFc hP1 hD1
  exact kk r u H1 locs1 hw hP2 hD2 hS1
theorem kc_v {S : Type} {post : S → Prop} {W1 : S → va_W} (hr : va_Run p l e R s m args below meth c H locs cells slots mc ms (F0 m pc ls st0) rest (va_Qv post (fun u t => EB D (va_A wc H.size) (W1 u) t) (va_A wc H.size) a) (va_A wc H.size))
    (hP : va_P D vwCl ws H) (hD : va_D A ws) (hS : va_S A H0 H locs) (hA : ∀ q, H0.size ≤ q → A q) (isC isR : List Nat) (hC : isC.map (fun i => ws[i]?) = wc.map some) (hR : isR.map (fun i => ws[i]?) = wr.map some) (hn : va_nd isR = true) (hdis : ∀ i ∈ isR, i ∉ isC)
    (kk : ∀ (u : S) (H1 : Heap) (locs1 : List Loc), post u → va_P D vwCl (wr ++ W1 u) H1 → va_D A (wr ++ W1 u) → va_S A H0 H1 locs1 → W p l e R s m args below meth c H1 locs1 (cells + mc) (slots + ms) Q (F0 m (pc + 3) ls rest)) : W p l e R s m args below meth c H locs cells slots Q (F0 m pc ls st0) := by
  have hFc := va_free hD hS hA isC hC
  refine va_callv hr hS (fun q _ h => hFc q h) hFc (fun u t H1 locs1 ht hvm hw hB hz1 hk1 hS1 => ?_)
  obtain ⟨hP1, hD1⟩ := hB
  rw [ht] at hP1
  obtain ⟨hP2, hD2⟩ := va_join hP hD isC isR hC hR hn hdis hk1 hFc hP1 hD1
  exact kk u H1 locs1 hw hP2 hD2 hS1
theorem kr_i {cc : ByteArray} {S : Type} {post : Int32 → S → Prop} {W1 : S → va_W} {v : Int32} (u : S) (hx : p.tables.exec = Jvm.exec) (hb : c.code = cc) (hr : meth.sig.returnType = some .int) (hlocks : meth.locks = false) (hP : va_P D vwCl (W1 u) H) (hD : va_D A (W1 u)) (hS : va_S A s.heap H locs) (hq : post v u) (hdg : decode cc pc = .ok (.ireturn, 1)) :
    W p l e R s m args below meth c H locs cells slots (MQ below (va_Qi post (fun u t => EB D A (W1 u) t) A) args s cells slots A) (F0 m pc ls [.int v]) :=
  W.iret hx hb hr (fun t ht hW => ⟨⟨v, u, rfl, hq, by rw [ht]; exact hP, hD⟩, hS.F ht⟩) hS.2.2 hdg hlocks
theorem kr_z {cc : ByteArray} {S : Type} {post : Int32 → S → Prop} {W1 : S → va_W} {v : Int32} (u : S) (hx : p.tables.exec = Jvm.exec) (hb : c.code = cc) (hr : meth.sig.returnType = some .boolean) (hnv : narrow .boolean (.int v) = .int v) (hlocks : meth.locks = false) (hP : va_P D vwCl (W1 u) H) (hD : va_D A (W1 u)) (hS : va_S A s.heap H locs) (hq : post v u) (hdg : decode cc pc = .ok (.ireturn, 1)) :
    W p l e R s m args below meth c H locs cells slots (MQ below (va_Qi post (fun u t => EB D A (W1 u) t) A) args s cells slots A) (F0 m pc ls [.int v]) :=
  W.zret hx hb hr hnv (fun t ht hW => ⟨⟨v, u, rfl, hq, by rw [ht]; exact hP, hD⟩, hS.F ht⟩) hS.2.2 hdg hlocks
theorem kr_v {cc : ByteArray} {S : Type} {post : S → Prop} {W1 : S → va_W} (u : S) (hx : p.tables.exec = Jvm.exec) (hb : c.code = cc) (hr : meth.sig.returnType = none) (hlocks : meth.locks = false) (hP : va_P D vwCl (W1 u) H) (hD : va_D A (W1 u)) (hS : va_S A s.heap H locs) (hq : post u) (hdg : decode cc pc = .ok (.return_, 1)) :
    W p l e R s m args below meth c H locs cells slots (MQ below (va_Qv post (fun u t => EB D A (W1 u) t) A) args s cells slots A) (F0 m pc ls []) :=
  W.vret hx hb hr (fun t ht hW => ⟨⟨u, rfl, hq, by rw [ht]; exact hP, hD⟩, hS.F ht⟩) hS.2.2 hdg hlocks
/-- a loop: by induction over a number that falls; what holds at its head is I -/
theorem kl {α : Type} (I : Nat → α → Heap → List Loc → Array Slot → Prop) (n : Nat) (a : α) (h : I n a H locs ls) (zero : ∀ a H locs ls, ¬ I 0 a H locs ls)
    (step : ∀ n, (∀ a H locs ls, I n a H locs ls → W p l e R s m args below meth c H locs cells slots Q (F0 m pc ls [])) → ∀ a H locs ls, I (n + 1) a H locs ls → W p l e R s m args below meth c H locs cells slots Q (F0 m pc ls [])) : W p l e R s m args below meth c H locs cells slots Q (F0 m pc ls []) := by
  have key : ∀ n, ∀ a H locs ls, I n a H locs ls → W p l e R s m args below meth c H locs cells slots Q (F0 m pc ls []) := by
    intro n
    induction n with
    | zero => exact fun a H locs ls h => absurd h (zero a H locs ls)
    | succ n ih => exact step n ih
  exact key n a H locs ls h
end TCALL
theorem ac_le {x n : Int32} {a b : Int} {N : Nat} (hx : x.toInt = a) (hn : n.toInt = b) (h0 : 0 ≤ a) (h1 : 0 ≤ b) (h2 : a + b ≤ N) : x.toNatClampNeg + n.toNatClampNeg ≤ N := by
  show x.toInt.toNat + n.toInt.toNat ≤ N
  rw [hx, hn]
  omega
theorem ti_and15 (x : Int32) : 0 ≤ (x &&& 15).toInt ∧ (x &&& 15).toInt ≤ 15 := by
  obtain ⟨j, hj, e⟩ := pk_andE x (m := 15) 4 (by decide)
  rw [e, nI_toInt (by omega)]
  omega
theorem ca_eqB {D : va_G} {cB cI cZ cA : ClassId} {s : State} (h : va_K D vwCl (TY cB cI cZ ++ [(cA, .byte)]) s) : cA = cB := Option.some.inj ((h.2 3 (cA, .byte) rfl).2.symm.trans (h.2 0 (cB, .byte) rfl).2)
theorem ca_eqI {D : va_G} {cB cI cZ cA : ClassId} {s : State} (h : va_K D vwCl (TY cB cI cZ ++ [(cA, .int)]) s) : cA = cI := Option.some.inj ((h.2 3 (cA, .int) rfl).2.symm.trans (h.2 1 (cI, .int) rfl).2)
theorem ca_eqZ {D : va_G} {cB cI cZ cA : ClassId} {s : State} (h : va_K D vwCl (TY cB cI cZ ++ [(cA, .boolean)]) s) : cA = cZ := Option.some.inj ((h.2 3 (cA, .boolean) rfl).2.symm.trans (h.2 2 (cZ, .boolean) rfl).2)
theorem fl_1 {m : Int32} (h0 : 0 ≤ m.toInt) (h1 : m.toInt ≤ 255) : (0 ||| (vp_nar .byte (Int8.toInt32 (Int32.toInt8 (0 ^^^ m))) &&& 255)) = m := by
  have key : ∀ k : Fin 256, (0 ||| (vp_nar .byte (Int8.toInt32 (Int32.toInt8 (0 ^^^ nI k.val))) &&& 255)) = nI k.val := by decide +kernel
  obtain ⟨j, hj, rfl⟩ := nI_of2 (M := 255) (n := 255) (by decide) (fun h => by have := (ti_lt (x := m) (y := 0) (a := m.toInt) (b := 0) rfl (by decide)).mp h; omega) ((ti_le (x := m) (y := 255) (a := m.toInt) (b := 255) rfl (by decide)).mpr h1)
  exact key ⟨j, by omega⟩
theorem fl_2 {m : Int32} (h0 : 0 ≤ m.toInt) (h1 : m.toInt ≤ 255) : (vp_nar .byte (Int8.toInt32 (Int32.toInt8 (0 ^^^ Int8.toInt32 (Int32.toInt8 m)))) &&& 255) = m := by
  have key : ∀ k : Fin 256, (vp_nar .byte (Int8.toInt32 (Int32.toInt8 (0 ^^^ Int8.toInt32 (Int32.toInt8 (nI k.val))))) &&& 255) = nI k.val := by decide +kernel
  obtain ⟨j, hj, rfl⟩ := nI_of2 (M := 255) (n := 255) (by decide) (fun h => by have := (ti_lt (x := m) (y := 0) (a := m.toInt) (b := 0) rfl (by decide)).mp h; omega) ((ti_le (x := m) (y := 255) (a := m.toInt) (b := 255) rfl (by decide)).mpr h1)
  exact key ⟨j, by omega⟩
end
section
theorem dX0_init_0 : decode cX0_init 0 = .ok (.aload_n 0, 1) := by decide +kernel
theorem dX0_init_1 : decode cX0_init 1 = .ok (.invokespecial 3, 3) := by decide +kernel
theorem dX0_init_4 : decode cX0_init 4 = .ok (.aload_n 0, 1) := by decide +kernel
theorem dX0_init_5 : decode cX0_init 5 = .ok (.bipush 64, 2) := by decide +kernel
theorem dX0_init_7 : decode cX0_init 7 = .ok (.newarray .boolean, 2) := by decide +kernel
theorem dX0_init_9 : decode cX0_init 9 = .ok (.putfield 9, 3) := by decide +kernel
theorem dX0_init_12 : decode cX0_init 12 = .ok (.aload_n 0, 1) := by decide +kernel
theorem dX0_init_13 : decode cX0_init 13 = .ok (.bipush 64, 2) := by decide +kernel
theorem dX0_init_15 : decode cX0_init 15 = .ok (.newarray .int, 2) := by decide +kernel
theorem dX0_init_17 : decode cX0_init 17 = .ok (.putfield 15, 3) := by decide +kernel
theorem dX0_init_20 : decode cX0_init 20 = .ok (.aload_n 0, 1) := by decide +kernel
theorem dX0_init_21 : decode cX0_init 21 = .ok (.sipush 300, 3) := by decide +kernel
theorem dX0_init_24 : decode cX0_init 24 = .ok (.newarray .int, 2) := by decide +kernel
theorem dX0_init_26 : decode cX0_init 26 = .ok (.putfield 19, 3) := by decide +kernel
theorem dX0_init_29 : decode cX0_init 29 = .ok (.aload_n 0, 1) := by decide +kernel
theorem dX0_init_30 : decode cX0_init 30 = .ok (.iconst 0, 1) := by decide +kernel
theorem dX0_init_31 : decode cX0_init 31 = .ok (.putfield 22, 3) := by decide +kernel
theorem dX0_init_34 : decode cX0_init 34 = .ok (.aload_n 0, 1) := by decide +kernel
theorem dX0_init_35 : decode cX0_init 35 = .ok (.aload_n 1, 1) := by decide +kernel
theorem dX0_init_36 : decode cX0_init 36 = .ok (.putfield 26, 3) := by decide +kernel
theorem dX0_init_39 : decode cX0_init 39 = .ok (.aload_n 0, 1) := by decide +kernel
theorem dX0_init_40 : decode cX0_init 40 = .ok (.aload_n 2, 1) := by decide +kernel
theorem dX0_init_41 : decode cX0_init 41 = .ok (.putfield 30, 3) := by decide +kernel
theorem dX0_init_44 : decode cX0_init 44 = .ok (.return_, 1) := by decide +kernel
theorem dX0_spend_0 : decode cX0_spend 0 = .ok (.aload_n 0, 1) := by decide +kernel
theorem dX0_spend_1 : decode cX0_spend 1 = .ok (.iload_n 1, 1) := by decide +kernel
theorem dX0_spend_2 : decode cX0_spend 2 = .ok (.invokevirtual 34, 3) := by decide +kernel
theorem dX0_spend_5 : decode cX0_spend 5 = .ok (.istore_n 2, 1) := by decide +kernel
theorem dX0_spend_6 : decode cX0_spend 6 = .ok (.aload_n 0, 1) := by decide +kernel
theorem dX0_spend_7 : decode cX0_spend 7 = .ok (.invokevirtual 38, 3) := by decide +kernel
theorem dX0_spend_10 : decode cX0_spend 10 = .ok (.aload_n 0, 1) := by decide +kernel
theorem dX0_spend_11 : decode cX0_spend 11 = .ok (.invokevirtual 41, 3) := by decide +kernel
theorem dX0_spend_14 : decode cX0_spend 14 = .ok (.aload_n 0, 1) := by decide +kernel
theorem dX0_spend_15 : decode cX0_spend 15 = .ok (.getfield 26, 3) := by decide +kernel
theorem dX0_spend_18 : decode cX0_spend 18 = .ok (.invokevirtual 45, 3) := by decide +kernel
theorem dX0_spend_21 : decode cX0_spend 21 = .ok (.if_icmp .le 6, 3) := by decide +kernel
theorem dX0_spend_27 : decode cX0_spend 27 = .ok (.iconst 0, 1) := by decide +kernel
theorem dX0_spend_28 : decode cX0_spend 28 = .ok (.istore_n 3, 1) := by decide +kernel
theorem dX0_spend_29 : decode cX0_spend 29 = .ok (.iload_n 3, 1) := by decide +kernel
theorem dX0_spend_30 : decode cX0_spend 30 = .ok (.aload_n 0, 1) := by decide +kernel
theorem dX0_spend_31 : decode cX0_spend 31 = .ok (.getfield 22, 3) := by decide +kernel
theorem dX0_spend_34 : decode cX0_spend 34 = .ok (.if_icmp .ge 19, 3) := by decide +kernel
theorem dX0_spend_53 : decode cX0_spend 53 = .ok (.bipush 8, 2) := by decide +kernel
theorem dX0_spend_55 : decode cX0_spend 55 = .ok (.istore_n 3, 1) := by decide +kernel
theorem dX0_spend_56 : decode cX0_spend 56 = .ok (.iload_n 3, 1) := by decide +kernel
theorem dX0_spend_57 : decode cX0_spend 57 = .ok (.bipush 64, 2) := by decide +kernel
theorem dX0_spend_59 : decode cX0_spend 59 = .ok (.if_icmp .ge 26, 3) := by decide +kernel
theorem dX0_spend_62 : decode cX0_spend 62 = .ok (.aload_n 0, 1) := by decide +kernel
theorem dX0_spend_63 : decode cX0_spend 63 = .ok (.getfield 9, 3) := by decide +kernel
theorem dX0_spend_66 : decode cX0_spend 66 = .ok (.iload_n 3, 1) := by decide +kernel
theorem dX0_spend_67 : decode cX0_spend 67 = .ok (.baload, 1) := by decide +kernel
theorem dX0_spend_68 : decode cX0_spend 68 = .ok (.ifCond .eq 11, 3) := by decide +kernel
theorem dX0_spend_79 : decode cX0_spend 79 = .ok (.iinc 3 1, 3) := by decide +kernel
theorem dX0_spend_82 : decode cX0_spend 82 = .ok (.goto (-26), 3) := by decide +kernel
theorem dX0_spend_85 : decode cX0_spend 85 = .ok (.iload_n 2, 1) := by decide +kernel
theorem dX0_spend_86 : decode cX0_spend 86 = .ok (.ireturn, 1) := by decide +kernel
theorem dX0_choose_0 : decode cX0_choose 0 = .ok (.aload_n 0, 1) := by decide +kernel
theorem dX0_choose_1 : decode cX0_choose 1 = .ok (.invokevirtual 57, 3) := by decide +kernel
theorem dX0_choose_4 : decode cX0_choose 4 = .ok (.aload_n 0, 1) := by decide +kernel
theorem dX0_choose_5 : decode cX0_choose 5 = .ok (.invokevirtual 60, 3) := by decide +kernel
theorem dX0_choose_8 : decode cX0_choose 8 = .ok (.iconst 0, 1) := by decide +kernel
theorem dX0_choose_9 : decode cX0_choose 9 = .ok (.istore_n 2, 1) := by decide +kernel
theorem dX0_choose_10 : decode cX0_choose 10 = .ok (.iload_n 2, 1) := by decide +kernel
theorem dX0_choose_11 : decode cX0_choose 11 = .ok (.iload_n 1, 1) := by decide +kernel
theorem dX0_choose_12 : decode cX0_choose 12 = .ok (.if_icmp .ge 27, 3) := by decide +kernel
theorem dX0_choose_15 : decode cX0_choose 15 = .ok (.aload_n 0, 1) := by decide +kernel
theorem dX0_choose_16 : decode cX0_choose 16 = .ok (.invokevirtual 63, 3) := by decide +kernel
theorem dX0_choose_19 : decode cX0_choose 19 = .ok (.istore_n 3, 1) := by decide +kernel
theorem dX0_choose_20 : decode cX0_choose 20 = .ok (.iload_n 3, 1) := by decide +kernel
theorem dX0_choose_21 : decode cX0_choose 21 = .ok (.ifCond .ne 5, 3) := by decide +kernel
theorem dX0_choose_24 : decode cX0_choose 24 = .ok (.iload_n 2, 1) := by decide +kernel
theorem dX0_choose_25 : decode cX0_choose 25 = .ok (.ireturn, 1) := by decide +kernel
theorem dX0_forgetChosen_0 : decode cX0_forgetChosen 0 = .ok (.iconst 0, 1) := by decide +kernel
theorem dX0_forgetChosen_1 : decode cX0_forgetChosen 1 = .ok (.istore_n 1, 1) := by decide +kernel
theorem dX0_forgetChosen_2 : decode cX0_forgetChosen 2 = .ok (.iload_n 1, 1) := by decide +kernel
theorem dX0_forgetChosen_3 : decode cX0_forgetChosen 3 = .ok (.bipush 64, 2) := by decide +kernel
theorem dX0_forgetChosen_5 : decode cX0_forgetChosen 5 = .ok (.if_icmp .ge 16, 3) := by decide +kernel
theorem dX0_forgetChosen_8 : decode cX0_forgetChosen 8 = .ok (.aload_n 0, 1) := by decide +kernel
theorem dX0_forgetChosen_9 : decode cX0_forgetChosen 9 = .ok (.getfield 9, 3) := by decide +kernel
theorem dX0_forgetChosen_12 : decode cX0_forgetChosen 12 = .ok (.iload_n 1, 1) := by decide +kernel
theorem dX0_forgetChosen_13 : decode cX0_forgetChosen 13 = .ok (.iconst 0, 1) := by decide +kernel
theorem dX0_forgetChosen_14 : decode cX0_forgetChosen 14 = .ok (.bastore, 1) := by decide +kernel
theorem dX0_forgetChosen_15 : decode cX0_forgetChosen 15 = .ok (.iinc 1 1, 3) := by decide +kernel
theorem dX0_forgetChosen_18 : decode cX0_forgetChosen 18 = .ok (.goto (-16), 3) := by decide +kernel
theorem dX0_forgetChosen_21 : decode cX0_forgetChosen 21 = .ok (.return_, 1) := by decide +kernel
theorem dX0_weighLive_0 : decode cX0_weighLive 0 = .ok (.aload_n 0, 1) := by decide +kernel
theorem dX0_weighLive_1 : decode cX0_weighLive 1 = .ok (.getfield 15, 3) := by decide +kernel
theorem dX0_weighLive_4 : decode cX0_weighLive 4 = .ok (.iconst 0, 1) := by decide +kernel
theorem dX0_weighLive_5 : decode cX0_weighLive 5 = .ok (.invokestatic 66, 3) := by decide +kernel
theorem dX0_weighLive_8 : decode cX0_weighLive 8 = .ok (.iconst 0, 1) := by decide +kernel
theorem dX0_weighLive_9 : decode cX0_weighLive 9 = .ok (.istore_n 1, 1) := by decide +kernel
theorem dX0_weighLive_10 : decode cX0_weighLive 10 = .ok (.iload_n 1, 1) := by decide +kernel
theorem dX0_weighLive_11 : decode cX0_weighLive 11 = .ok (.sipush 300, 3) := by decide +kernel
theorem dX0_weighLive_14 : decode cX0_weighLive 14 = .ok (.if_icmp .ge 47, 3) := by decide +kernel
theorem dX0_weighLive_17 : decode cX0_weighLive 17 = .ok (.aload_n 0, 1) := by decide +kernel
theorem dX0_weighLive_18 : decode cX0_weighLive 18 = .ok (.getfield 30, 3) := by decide +kernel
theorem dX0_weighLive_21 : decode cX0_weighLive 21 = .ok (.iload_n 1, 1) := by decide +kernel
theorem dX0_weighLive_22 : decode cX0_weighLive 22 = .ok (.invokevirtual 72, 3) := by decide +kernel
theorem dX0_weighLive_25 : decode cX0_weighLive 25 = .ok (.ifCond .eq 30, 3) := by decide +kernel
theorem dX0_weighLive_55 : decode cX0_weighLive 55 = .ok (.iinc 1 1, 3) := by decide +kernel
theorem dX0_weighLive_58 : decode cX0_weighLive 58 = .ok (.goto (-48), 3) := by decide +kernel
theorem dX0_weighLive_61 : decode cX0_weighLive 61 = .ok (.return_, 1) := by decide +kernel
theorem dX0_bestLeft_0 : decode cX0_bestLeft 0 = .ok (.iconst 0, 1) := by decide +kernel
theorem dX0_bestLeft_1 : decode cX0_bestLeft 1 = .ok (.istore_n 1, 1) := by decide +kernel
theorem dX0_bestLeft_2 : decode cX0_bestLeft 2 = .ok (.bipush 8, 2) := by decide +kernel
theorem dX0_bestLeft_4 : decode cX0_bestLeft 4 = .ok (.istore_n 2, 1) := by decide +kernel
theorem dX0_bestLeft_5 : decode cX0_bestLeft 5 = .ok (.iload_n 2, 1) := by decide +kernel
theorem dX0_bestLeft_6 : decode cX0_bestLeft 6 = .ok (.bipush 64, 2) := by decide +kernel
theorem dX0_bestLeft_8 : decode cX0_bestLeft 8 = .ok (.if_icmp .ge 55, 3) := by decide +kernel
theorem dX0_bestLeft_11 : decode cX0_bestLeft 11 = .ok (.aload_n 0, 1) := by decide +kernel
theorem dX0_bestLeft_12 : decode cX0_bestLeft 12 = .ok (.getfield 26, 3) := by decide +kernel
theorem dX0_bestLeft_15 : decode cX0_bestLeft 15 = .ok (.iload_n 2, 1) := by decide +kernel
theorem dX0_bestLeft_16 : decode cX0_bestLeft 16 = .ok (.invokevirtual 84, 3) := by decide +kernel
theorem dX0_bestLeft_19 : decode cX0_bestLeft 19 = .ok (.iconst 1, 1) := by decide +kernel
theorem dX0_bestLeft_20 : decode cX0_bestLeft 20 = .ok (.if_icmp .ne 16, 3) := by decide +kernel
theorem dX0_bestLeft_36 : decode cX0_bestLeft 36 = .ok (.iconst 0, 1) := by decide +kernel
theorem dX0_bestLeft_37 : decode cX0_bestLeft 37 = .ok (.istore_n 3, 1) := by decide +kernel
theorem dX0_bestLeft_38 : decode cX0_bestLeft 38 = .ok (.iload_n 3, 1) := by decide +kernel
theorem dX0_bestLeft_39 : decode cX0_bestLeft 39 = .ok (.ifCond .eq 18, 3) := by decide +kernel
theorem dX0_bestLeft_57 : decode cX0_bestLeft 57 = .ok (.iinc 2 1, 3) := by decide +kernel
theorem dX0_bestLeft_60 : decode cX0_bestLeft 60 = .ok (.goto (-55), 3) := by decide +kernel
theorem dX0_bestLeft_63 : decode cX0_bestLeft 63 = .ok (.iload_n 1, 1) := by decide +kernel
theorem dX0_bestLeft_64 : decode cX0_bestLeft 64 = .ok (.ireturn, 1) := by decide +kernel
theorem dX0_gatherAged_0 : decode cX0_gatherAged 0 = .ok (.aload_n 0, 1) := by decide +kernel
theorem dX0_gatherAged_1 : decode cX0_gatherAged 1 = .ok (.iconst 0, 1) := by decide +kernel
theorem dX0_gatherAged_2 : decode cX0_gatherAged 2 = .ok (.putfield 22, 3) := by decide +kernel
theorem dX0_gatherAged_5 : decode cX0_gatherAged 5 = .ok (.iconst 0, 1) := by decide +kernel
theorem dX0_gatherAged_6 : decode cX0_gatherAged 6 = .ok (.istore_n 1, 1) := by decide +kernel
theorem dX0_gatherAged_7 : decode cX0_gatherAged 7 = .ok (.iload_n 1, 1) := by decide +kernel
theorem dX0_gatherAged_8 : decode cX0_gatherAged 8 = .ok (.sipush 300, 3) := by decide +kernel
theorem dX0_gatherAged_11 : decode cX0_gatherAged 11 = .ok (.if_icmp .ge 41, 3) := by decide +kernel
theorem dX0_gatherAged_14 : decode cX0_gatherAged 14 = .ok (.aload_n 0, 1) := by decide +kernel
theorem dX0_gatherAged_15 : decode cX0_gatherAged 15 = .ok (.getfield 30, 3) := by decide +kernel
theorem dX0_gatherAged_18 : decode cX0_gatherAged 18 = .ok (.iload_n 1, 1) := by decide +kernel
theorem dX0_gatherAged_19 : decode cX0_gatherAged 19 = .ok (.invokevirtual 72, 3) := by decide +kernel
theorem dX0_gatherAged_22 : decode cX0_gatherAged 22 = .ok (.ifCond .eq 24, 3) := by decide +kernel
theorem dX0_gatherAged_46 : decode cX0_gatherAged 46 = .ok (.iinc 1 1, 3) := by decide +kernel
theorem dX0_gatherAged_49 : decode cX0_gatherAged 49 = .ok (.goto (-42), 3) := by decide +kernel
theorem dX0_gatherAged_52 : decode cX0_gatherAged 52 = .ok (.return_, 1) := by decide +kernel
theorem dX0_countWanted_0 : decode cX0_countWanted 0 = .ok (.iconst 0, 1) := by decide +kernel
theorem dX0_countWanted_1 : decode cX0_countWanted 1 = .ok (.istore_n 1, 1) := by decide +kernel
theorem dX0_countWanted_2 : decode cX0_countWanted 2 = .ok (.aload_n 0, 1) := by decide +kernel
theorem dX0_countWanted_3 : decode cX0_countWanted 3 = .ok (.getfield 26, 3) := by decide +kernel
theorem dX0_countWanted_6 : decode cX0_countWanted 6 = .ok (.getfield 113, 3) := by decide +kernel
theorem dX0_countWanted_9 : decode cX0_countWanted 9 = .ok (.ifCond .ne 9, 3) := by decide +kernel
theorem dX0_countWanted_12 : decode cX0_countWanted 12 = .ok (.sipush 1024, 3) := by decide +kernel
theorem dX0_countWanted_15 : decode cX0_countWanted 15 = .ok (.goto 10, 3) := by decide +kernel
theorem dX0_countWanted_25 : decode cX0_countWanted 25 = .ok (.istore_n 2, 1) := by decide +kernel
theorem dX0_countWanted_26 : decode cX0_countWanted 26 = .ok (.iconst 0, 1) := by decide +kernel
theorem dX0_countWanted_27 : decode cX0_countWanted 27 = .ok (.istore_n 3, 1) := by decide +kernel
theorem dX0_countWanted_28 : decode cX0_countWanted 28 = .ok (.iload_n 3, 1) := by decide +kernel
theorem dX0_countWanted_29 : decode cX0_countWanted 29 = .ok (.aload_n 0, 1) := by decide +kernel
theorem dX0_countWanted_30 : decode cX0_countWanted 30 = .ok (.getfield 22, 3) := by decide +kernel
theorem dX0_countWanted_33 : decode cX0_countWanted 33 = .ok (.if_icmp .ge 48, 3) := by decide +kernel
theorem dX0_countWanted_81 : decode cX0_countWanted 81 = .ok (.iload_n 1, 1) := by decide +kernel
theorem dX0_countWanted_82 : decode cX0_countWanted 82 = .ok (.ireturn, 1) := by decide +kernel
theorem dX1_init_0 : decode cX1_init 0 = .ok (.aload_n 0, 1) := by decide +kernel
theorem dX1_init_1 : decode cX1_init 1 = .ok (.invokespecial 3, 3) := by decide +kernel
theorem dX1_init_4 : decode cX1_init 4 = .ok (.aload_n 0, 1) := by decide +kernel
theorem dX1_init_5 : decode cX1_init 5 = .ok (.ldc 9, 2) := by decide +kernel
theorem dX1_init_7 : decode cX1_init 7 = .ok (.newarray .byte, 2) := by decide +kernel
theorem dX1_init_9 : decode cX1_init 9 = .ok (.putfield 10, 3) := by decide +kernel
theorem dX1_init_12 : decode cX1_init 12 = .ok (.aload_n 0, 1) := by decide +kernel
theorem dX1_init_13 : decode cX1_init 13 = .ok (.sipush 1024, 3) := by decide +kernel
theorem dX1_init_16 : decode cX1_init 16 = .ok (.newarray .int, 2) := by decide +kernel
theorem dX1_init_18 : decode cX1_init 18 = .ok (.putfield 16, 3) := by decide +kernel
theorem dX1_init_21 : decode cX1_init 21 = .ok (.aload_n 0, 1) := by decide +kernel
theorem dX1_init_22 : decode cX1_init 22 = .ok (.iconst 0, 1) := by decide +kernel
theorem dX1_init_23 : decode cX1_init 23 = .ok (.putfield 20, 3) := by decide +kernel
theorem dX1_init_26 : decode cX1_init 26 = .ok (.aload_n 0, 1) := by decide +kernel
theorem dX1_init_27 : decode cX1_init 27 = .ok (.iconst 0, 1) := by decide +kernel
theorem dX1_init_28 : decode cX1_init 28 = .ok (.putfield 24, 3) := by decide +kernel
theorem dX1_init_31 : decode cX1_init 31 = .ok (.aload_n 0, 1) := by decide +kernel
theorem dX1_init_32 : decode cX1_init 32 = .ok (.iconst 0, 1) := by decide +kernel
theorem dX1_init_33 : decode cX1_init 33 = .ok (.putfield 27, 3) := by decide +kernel
theorem dX1_init_36 : decode cX1_init 36 = .ok (.return_, 1) := by decide +kernel
theorem dX1_cutAt_0 : decode cX1_cutAt 0 = .ok (.aload_n 0, 1) := by decide +kernel
theorem dX1_cutAt_1 : decode cX1_cutAt 1 = .ok (.iload_n 1, 1) := by decide +kernel
theorem dX1_cutAt_2 : decode cX1_cutAt 2 = .ok (.putfield 24, 3) := by decide +kernel
theorem dX1_cutAt_5 : decode cX1_cutAt 5 = .ok (.aload_n 0, 1) := by decide +kernel
theorem dX1_cutAt_6 : decode cX1_cutAt 6 = .ok (.iload_n 2, 1) := by decide +kernel
theorem dX1_cutAt_7 : decode cX1_cutAt 7 = .ok (.putfield 27, 3) := by decide +kernel
theorem dX1_cutAt_10 : decode cX1_cutAt 10 = .ok (.return_, 1) := by decide +kernel
theorem dX1_flip_0 : decode cX1_flip 0 = .ok (.aload_n 0, 1) := by decide +kernel
theorem dX1_flip_1 : decode cX1_flip 1 = .ok (.getfield 10, 3) := by decide +kernel
theorem dX1_flip_4 : decode cX1_flip 4 = .ok (.iload_n 1, 1) := by decide +kernel
theorem dX1_flip_5 : decode cX1_flip 5 = .ok (.iconst 1, 1) := by decide +kernel
theorem dX1_flip_6 : decode cX1_flip 6 = .ok (.aload_n 0, 1) := by decide +kernel
theorem dX1_flip_7 : decode cX1_flip 7 = .ok (.getfield 10, 3) := by decide +kernel
theorem dX1_flip_10 : decode cX1_flip 10 = .ok (.iload_n 1, 1) := by decide +kernel
theorem dX1_flip_11 : decode cX1_flip 11 = .ok (.iconst 1, 1) := by decide +kernel
theorem dX1_flip_12 : decode cX1_flip 12 = .ok (.invokestatic 30, 3) := by decide +kernel
theorem dX1_flip_15 : decode cX1_flip 15 = .ok (.iload_n 2, 1) := by decide +kernel
theorem dX1_flip_16 : decode cX1_flip 16 = .ok (.ixor, 1) := by decide +kernel
theorem dX1_flip_17 : decode cX1_flip 17 = .ok (.invokestatic 36, 3) := by decide +kernel
theorem dX1_flip_20 : decode cX1_flip 20 = .ok (.aload_n 0, 1) := by decide +kernel
theorem dX1_flip_21 : decode cX1_flip 21 = .ok (.getfield 10, 3) := by decide +kernel
theorem dX1_flip_24 : decode cX1_flip 24 = .ok (.iload_n 1, 1) := by decide +kernel
theorem dX1_flip_25 : decode cX1_flip 25 = .ok (.iconst 1, 1) := by decide +kernel
theorem dX1_flip_26 : decode cX1_flip 26 = .ok (.invokestatic 30, 3) := by decide +kernel
theorem dX1_flip_29 : decode cX1_flip 29 = .ok (.ireturn, 1) := by decide +kernel
theorem dX1_write_0 : decode cX1_write 0 = .ok (.iload_n 1, 1) := by decide +kernel
theorem dX1_write_1 : decode cX1_write 1 = .ok (.ifCond .lt 12, 3) := by decide +kernel
theorem dX1_write_4 : decode cX1_write 4 = .ok (.iload_n 1, 1) := by decide +kernel
theorem dX1_write_5 : decode cX1_write 5 = .ok (.aload_n 0, 1) := by decide +kernel
theorem dX1_write_6 : decode cX1_write 6 = .ok (.getfield 16, 3) := by decide +kernel
theorem dX1_write_9 : decode cX1_write 9 = .ok (.arraylength, 1) := by decide +kernel
theorem dX1_write_10 : decode cX1_write 10 = .ok (.if_icmp .lt 5, 3) := by decide +kernel
theorem dX1_write_15 : decode cX1_write 15 = .ok (.aload_n 0, 1) := by decide +kernel
theorem dX1_write_16 : decode cX1_write 16 = .ok (.getfield 24, 3) := by decide +kernel
theorem dX1_write_19 : decode cX1_write 19 = .ok (.iconst 1, 1) := by decide +kernel
theorem dX1_write_20 : decode cX1_write 20 = .ok (.if_icmp .eq 7, 3) := by decide +kernel
theorem dX1_write_23 : decode cX1_write 23 = .ok (.iconst 1, 1) := by decide +kernel
theorem dX1_write_24 : decode cX1_write 24 = .ok (.goto 4, 3) := by decide +kernel
theorem dX1_write_28 : decode cX1_write 28 = .ok (.istore 5, 2) := by decide +kernel
theorem dX1_write_30 : decode cX1_write 30 = .ok (.aload_n 0, 1) := by decide +kernel
theorem dX1_write_31 : decode cX1_write 31 = .ok (.getfield 24, 3) := by decide +kernel
theorem dX1_write_34 : decode cX1_write 34 = .ok (.ifCond .le 13, 3) := by decide +kernel
theorem dX1_write_47 : decode cX1_write 47 = .ok (.aload_n 2, 1) := by decide +kernel
theorem dX1_write_48 : decode cX1_write 48 = .ok (.iload_n 3, 1) := by decide +kernel
theorem dX1_write_49 : decode cX1_write 49 = .ok (.aload_n 0, 1) := by decide +kernel
theorem dX1_write_50 : decode cX1_write 50 = .ok (.getfield 10, 3) := by decide +kernel
theorem dX1_write_53 : decode cX1_write 53 = .ok (.iload_n 1, 1) := by decide +kernel
theorem dX1_write_54 : decode cX1_write 54 = .ok (.bipush 64, 2) := by decide +kernel
theorem dX1_write_56 : decode cX1_write 56 = .ok (.imul, 1) := by decide +kernel
theorem dX1_write_57 : decode cX1_write 57 = .ok (.iload 5, 2) := by decide +kernel
theorem dX1_write_59 : decode cX1_write 59 = .ok (.ifCond .eq 8, 3) := by decide +kernel
theorem dX1_write_62 : decode cX1_write 62 = .ok (.bipush 64, 2) := by decide +kernel
theorem dX1_write_64 : decode cX1_write 64 = .ok (.goto 7, 3) := by decide +kernel
theorem dX1_write_71 : decode cX1_write 71 = .ok (.invokestatic 60, 3) := by decide +kernel
theorem dX1_write_74 : decode cX1_write 74 = .ok (.iload 5, 2) := by decide +kernel
theorem dX1_write_76 : decode cX1_write 76 = .ok (.ifCond .eq 23, 3) := by decide +kernel
theorem dX1_write_79 : decode cX1_write 79 = .ok (.aload_n 0, 1) := by decide +kernel
theorem dX1_write_80 : decode cX1_write 80 = .ok (.getfield 16, 3) := by decide +kernel
theorem dX1_write_83 : decode cX1_write 83 = .ok (.iload_n 1, 1) := by decide +kernel
theorem dX1_write_84 : decode cX1_write 84 = .ok (.iconst 0, 1) := by decide +kernel
theorem dX1_write_85 : decode cX1_write 85 = .ok (.iastore, 1) := by decide +kernel
theorem dX1_write_86 : decode cX1_write 86 = .ok (.aload_n 0, 1) := by decide +kernel
theorem dX1_write_87 : decode cX1_write 87 = .ok (.dup, 1) := by decide +kernel
theorem dX1_write_88 : decode cX1_write 88 = .ok (.getfield 20, 3) := by decide +kernel
theorem dX1_write_91 : decode cX1_write 91 = .ok (.iconst 1, 1) := by decide +kernel
theorem dX1_write_92 : decode cX1_write 92 = .ok (.iadd, 1) := by decide +kernel
theorem dX1_write_93 : decode cX1_write 93 = .ok (.putfield 20, 3) := by decide +kernel
theorem dX1_write_96 : decode cX1_write 96 = .ok (.goto 34, 3) := by decide +kernel
theorem dX1_write_130 : decode cX1_write 130 = .ok (.iload 5, 2) := by decide +kernel
theorem dX1_write_132 : decode cX1_write 132 = .ok (.ireturn, 1) := by decide +kernel
theorem dX2_init_0 : decode cX2_init 0 = .ok (.aload_n 0, 1) := by decide +kernel
theorem dX2_init_1 : decode cX2_init 1 = .ok (.invokespecial 3, 3) := by decide +kernel
theorem dX2_init_4 : decode cX2_init 4 = .ok (.aload_n 0, 1) := by decide +kernel
theorem dX2_init_5 : decode cX2_init 5 = .ok (.sipush 300, 3) := by decide +kernel
theorem dX2_init_8 : decode cX2_init 8 = .ok (.newarray .int, 2) := by decide +kernel
theorem dX2_init_10 : decode cX2_init 10 = .ok (.putfield 9, 3) := by decide +kernel
theorem dX2_init_13 : decode cX2_init 13 = .ok (.aload_n 0, 1) := by decide +kernel
theorem dX2_init_14 : decode cX2_init 14 = .ok (.sipush 300, 3) := by decide +kernel
theorem dX2_init_17 : decode cX2_init 17 = .ok (.newarray .int, 2) := by decide +kernel
theorem dX2_init_19 : decode cX2_init 19 = .ok (.putfield 15, 3) := by decide +kernel
theorem dX2_init_22 : decode cX2_init 22 = .ok (.aload_n 0, 1) := by decide +kernel
theorem dX2_init_23 : decode cX2_init 23 = .ok (.iconst 0, 1) := by decide +kernel
theorem dX2_init_24 : decode cX2_init 24 = .ok (.putfield 18, 3) := by decide +kernel
theorem dX2_init_27 : decode cX2_init 27 = .ok (.return_, 1) := by decide +kernel
theorem dX2_has_0 : decode cX2_has 0 = .ok (.iload_n 1, 1) := by decide +kernel
theorem dX2_has_1 : decode cX2_has 1 = .ok (.invokestatic 22, 3) := by decide +kernel
theorem dX2_has_4 : decode cX2_has 4 = .ok (.ifCond .eq 19, 3) := by decide +kernel
theorem dX2_has_7 : decode cX2_has 7 = .ok (.aload_n 0, 1) := by decide +kernel
theorem dX2_has_8 : decode cX2_has 8 = .ok (.getfield 9, 3) := by decide +kernel
theorem dX2_has_11 : decode cX2_has 11 = .ok (.iload_n 1, 1) := by decide +kernel
theorem dX2_has_12 : decode cX2_has 12 = .ok (.iaload, 1) := by decide +kernel
theorem dX2_has_13 : decode cX2_has 13 = .ok (.invokestatic 26, 3) := by decide +kernel
theorem dX2_has_16 : decode cX2_has 16 = .ok (.ifCond .eq 7, 3) := by decide +kernel
theorem dX2_has_23 : decode cX2_has 23 = .ok (.iconst 0, 1) := by decide +kernel
theorem dX2_has_24 : decode cX2_has 24 = .ok (.ireturn, 1) := by decide +kernel
theorem dX2_follow_0 : decode cX2_follow 0 = .ok (.iload_n 2, 1) := by decide +kernel
theorem dX2_follow_1 : decode cX2_follow 1 = .ok (.invokestatic 22, 3) := by decide +kernel
theorem dX2_follow_4 : decode cX2_follow 4 = .ok (.ifCond .ne 4, 3) := by decide +kernel
theorem dX2_follow_8 : decode cX2_follow 8 = .ok (.aload_n 0, 1) := by decide +kernel
theorem dX2_follow_9 : decode cX2_follow 9 = .ok (.getfield 9, 3) := by decide +kernel
theorem dX2_follow_12 : decode cX2_follow 12 = .ok (.iload_n 2, 1) := by decide +kernel
theorem dX2_follow_13 : decode cX2_follow 13 = .ok (.iaload, 1) := by decide +kernel
theorem dX2_follow_14 : decode cX2_follow 14 = .ok (.ifCond .eq 13, 3) := by decide +kernel
theorem dX2_follow_27 : decode cX2_follow 27 = .ok (.aload_n 0, 1) := by decide +kernel
theorem dX2_follow_28 : decode cX2_follow 28 = .ok (.getfield 9, 3) := by decide +kernel
theorem dX2_follow_31 : decode cX2_follow 31 = .ok (.iload_n 2, 1) := by decide +kernel
theorem dX2_follow_32 : decode cX2_follow 32 = .ok (.iload_n 1, 1) := by decide +kernel
theorem dX2_follow_33 : decode cX2_follow 33 = .ok (.iconst 1, 1) := by decide +kernel
theorem dX2_follow_34 : decode cX2_follow 34 = .ok (.if_icmp .ne 7, 3) := by decide +kernel
theorem dX2_follow_37 : decode cX2_follow 37 = .ok (.iload_n 3, 1) := by decide +kernel
theorem dX2_follow_38 : decode cX2_follow 38 = .ok (.goto 4, 3) := by decide +kernel
theorem dX2_follow_42 : decode cX2_follow 42 = .ok (.iastore, 1) := by decide +kernel
theorem dX2_follow_43 : decode cX2_follow 43 = .ok (.aload_n 0, 1) := by decide +kernel
theorem dX2_follow_44 : decode cX2_follow 44 = .ok (.getfield 15, 3) := by decide +kernel
theorem dX2_follow_47 : decode cX2_follow 47 = .ok (.iload_n 2, 1) := by decide +kernel
theorem dX2_follow_48 : decode cX2_follow 48 = .ok (.iload_n 1, 1) := by decide +kernel
theorem dX2_follow_49 : decode cX2_follow 49 = .ok (.iconst 1, 1) := by decide +kernel
theorem dX2_follow_50 : decode cX2_follow 50 = .ok (.if_icmp .ne 8, 3) := by decide +kernel
theorem dX2_follow_53 : decode cX2_follow 53 = .ok (.iload 4, 2) := by decide +kernel
theorem dX2_follow_55 : decode cX2_follow 55 = .ok (.goto 4, 3) := by decide +kernel
theorem dX2_follow_59 : decode cX2_follow 59 = .ok (.iastore, 1) := by decide +kernel
theorem dX2_follow_60 : decode cX2_follow 60 = .ok (.aload_n 0, 1) := by decide +kernel
theorem dX2_follow_61 : decode cX2_follow 61 = .ok (.getfield 9, 3) := by decide +kernel
theorem dX2_follow_64 : decode cX2_follow 64 = .ok (.iload_n 2, 1) := by decide +kernel
theorem dX2_follow_65 : decode cX2_follow 65 = .ok (.iaload, 1) := by decide +kernel
theorem dX2_follow_66 : decode cX2_follow 66 = .ok (.ifCond .eq 13, 3) := by decide +kernel
theorem dX2_follow_69 : decode cX2_follow 69 = .ok (.aload_n 0, 1) := by decide +kernel
theorem dX2_follow_70 : decode cX2_follow 70 = .ok (.dup, 1) := by decide +kernel
theorem dX2_follow_71 : decode cX2_follow 71 = .ok (.getfield 18, 3) := by decide +kernel
theorem dX2_follow_74 : decode cX2_follow 74 = .ok (.iconst 1, 1) := by decide +kernel
theorem dX2_follow_75 : decode cX2_follow 75 = .ok (.iadd, 1) := by decide +kernel
theorem dX2_follow_76 : decode cX2_follow 76 = .ok (.putfield 18, 3) := by decide +kernel
theorem dX2_follow_79 : decode cX2_follow 79 = .ok (.return_, 1) := by decide +kernel
theorem dX2_clear_0 : decode cX2_clear 0 = .ok (.aload_n 0, 1) := by decide +kernel
theorem dX2_clear_1 : decode cX2_clear 1 = .ok (.getfield 9, 3) := by decide +kernel
theorem dX2_clear_4 : decode cX2_clear 4 = .ok (.iconst 0, 1) := by decide +kernel
theorem dX2_clear_5 : decode cX2_clear 5 = .ok (.invokestatic 29, 3) := by decide +kernel
theorem dX2_clear_8 : decode cX2_clear 8 = .ok (.aload_n 0, 1) := by decide +kernel
theorem dX2_clear_9 : decode cX2_clear 9 = .ok (.getfield 15, 3) := by decide +kernel
theorem dX2_clear_12 : decode cX2_clear 12 = .ok (.iconst 0, 1) := by decide +kernel
theorem dX2_clear_13 : decode cX2_clear 13 = .ok (.invokestatic 29, 3) := by decide +kernel
theorem dX2_clear_16 : decode cX2_clear 16 = .ok (.aload_n 0, 1) := by decide +kernel
theorem dX2_clear_17 : decode cX2_clear 17 = .ok (.iconst 0, 1) := by decide +kernel
theorem dX2_clear_18 : decode cX2_clear 18 = .ok (.putfield 18, 3) := by decide +kernel
theorem dX2_clear_21 : decode cX2_clear 21 = .ok (.return_, 1) := by decide +kernel
theorem dX3_init_0 : decode cX3_init 0 = .ok (.aload_n 0, 1) := by decide +kernel
theorem dX3_init_1 : decode cX3_init 1 = .ok (.invokespecial 3, 3) := by decide +kernel
theorem dX3_init_4 : decode cX3_init 4 = .ok (.aload_n 0, 1) := by decide +kernel
theorem dX3_init_5 : decode cX3_init 5 = .ok (.ldc 9, 2) := by decide +kernel
theorem dX3_init_7 : decode cX3_init 7 = .ok (.newarray .byte, 2) := by decide +kernel
theorem dX3_init_9 : decode cX3_init 9 = .ok (.putfield 10, 3) := by decide +kernel
theorem dX3_init_12 : decode cX3_init 12 = .ok (.aload_n 0, 1) := by decide +kernel
theorem dX3_init_13 : decode cX3_init 13 = .ok (.bipush 64, 2) := by decide +kernel
theorem dX3_init_15 : decode cX3_init 15 = .ok (.newarray .int, 2) := by decide +kernel
theorem dX3_init_17 : decode cX3_init 17 = .ok (.putfield 16, 3) := by decide +kernel
theorem dX3_init_20 : decode cX3_init 20 = .ok (.aload_n 0, 1) := by decide +kernel
theorem dX3_init_21 : decode cX3_init 21 = .ok (.bipush 64, 2) := by decide +kernel
theorem dX3_init_23 : decode cX3_init 23 = .ok (.newarray .boolean, 2) := by decide +kernel
theorem dX3_init_25 : decode cX3_init 25 = .ok (.putfield 20, 3) := by decide +kernel
theorem dX3_init_28 : decode cX3_init 28 = .ok (.aload_n 0, 1) := by decide +kernel
theorem dX3_init_29 : decode cX3_init 29 = .ok (.bipush 64, 2) := by decide +kernel
theorem dX3_init_31 : decode cX3_init 31 = .ok (.newarray .int, 2) := by decide +kernel
theorem dX3_init_33 : decode cX3_init 33 = .ok (.putfield 24, 3) := by decide +kernel
theorem dX3_init_36 : decode cX3_init 36 = .ok (.aload_n 0, 1) := by decide +kernel
theorem dX3_init_37 : decode cX3_init 37 = .ok (.bipush 64, 2) := by decide +kernel
theorem dX3_init_39 : decode cX3_init 39 = .ok (.newarray .int, 2) := by decide +kernel
theorem dX3_init_41 : decode cX3_init 41 = .ok (.putfield 27, 3) := by decide +kernel
theorem dX3_init_44 : decode cX3_init 44 = .ok (.aload_n 0, 1) := by decide +kernel
theorem dX3_init_45 : decode cX3_init 45 = .ok (.bipush 64, 2) := by decide +kernel
theorem dX3_init_47 : decode cX3_init 47 = .ok (.newarray .int, 2) := by decide +kernel
theorem dX3_init_49 : decode cX3_init 49 = .ok (.putfield 30, 3) := by decide +kernel
theorem dX3_init_52 : decode cX3_init 52 = .ok (.aload_n 0, 1) := by decide +kernel
theorem dX3_init_53 : decode cX3_init 53 = .ok (.bipush 64, 2) := by decide +kernel
theorem dX3_init_55 : decode cX3_init 55 = .ok (.newarray .int, 2) := by decide +kernel
theorem dX3_init_57 : decode cX3_init 57 = .ok (.putfield 33, 3) := by decide +kernel
theorem dX3_init_60 : decode cX3_init 60 = .ok (.aload_n 0, 1) := by decide +kernel
theorem dX3_init_61 : decode cX3_init 61 = .ok (.iconst 0, 1) := by decide +kernel
theorem dX3_init_62 : decode cX3_init 62 = .ok (.putfield 36, 3) := by decide +kernel
theorem dX3_init_65 : decode cX3_init 65 = .ok (.aload_n 0, 1) := by decide +kernel
theorem dX3_init_66 : decode cX3_init 66 = .ok (.iconst 0, 1) := by decide +kernel
theorem dX3_init_67 : decode cX3_init 67 = .ok (.putfield 40, 3) := by decide +kernel
theorem dX3_init_70 : decode cX3_init 70 = .ok (.aload_n 0, 1) := by decide +kernel
theorem dX3_init_71 : decode cX3_init 71 = .ok (.iconst 0, 1) := by decide +kernel
theorem dX3_init_72 : decode cX3_init 72 = .ok (.putfield 43, 3) := by decide +kernel
theorem dX3_init_75 : decode cX3_init 75 = .ok (.aload_n 0, 1) := by decide +kernel
theorem dX3_init_76 : decode cX3_init 76 = .ok (.iconst 0, 1) := by decide +kernel
theorem dX3_init_77 : decode cX3_init 77 = .ok (.putfield 46, 3) := by decide +kernel
theorem dX3_init_80 : decode cX3_init 80 = .ok (.aload_n 0, 1) := by decide +kernel
theorem dX3_init_81 : decode cX3_init 81 = .ok (.iconst 1, 1) := by decide +kernel
theorem dX3_init_82 : decode cX3_init 82 = .ok (.putfield 49, 3) := by decide +kernel
theorem dX3_init_85 : decode cX3_init 85 = .ok (.aload_n 0, 1) := by decide +kernel
theorem dX3_init_86 : decode cX3_init 86 = .ok (.iconst 0, 1) := by decide +kernel
theorem dX3_init_87 : decode cX3_init 87 = .ok (.putfield 52, 3) := by decide +kernel
theorem dX3_init_90 : decode cX3_init 90 = .ok (.aload_n 0, 1) := by decide +kernel
theorem dX3_init_91 : decode cX3_init 91 = .ok (.aload_n 1, 1) := by decide +kernel
theorem dX3_init_92 : decode cX3_init 92 = .ok (.putfield 55, 3) := by decide +kernel
theorem dX3_init_95 : decode cX3_init 95 = .ok (.return_, 1) := by decide +kernel
theorem dX3_setAsAtFirst_0 : decode cX3_setAsAtFirst 0 = .ok (.aload_n 0, 1) := by decide +kernel
theorem dX3_setAsAtFirst_1 : decode cX3_setAsAtFirst 1 = .ok (.getfield 16, 3) := by decide +kernel
theorem dX3_setAsAtFirst_4 : decode cX3_setAsAtFirst 4 = .ok (.iconst 0, 1) := by decide +kernel
theorem dX3_setAsAtFirst_5 : decode cX3_setAsAtFirst 5 = .ok (.invokestatic 59, 3) := by decide +kernel
theorem dX3_setAsAtFirst_8 : decode cX3_setAsAtFirst 8 = .ok (.aload_n 0, 1) := by decide +kernel
theorem dX3_setAsAtFirst_9 : decode cX3_setAsAtFirst 9 = .ok (.iconst 0, 1) := by decide +kernel
theorem dX3_setAsAtFirst_10 : decode cX3_setAsAtFirst 10 = .ok (.putfield 36, 3) := by decide +kernel
theorem dX3_setAsAtFirst_13 : decode cX3_setAsAtFirst 13 = .ok (.aload_n 0, 1) := by decide +kernel
theorem dX3_setAsAtFirst_14 : decode cX3_setAsAtFirst 14 = .ok (.iconst 0, 1) := by decide +kernel
theorem dX3_setAsAtFirst_15 : decode cX3_setAsAtFirst 15 = .ok (.putfield 40, 3) := by decide +kernel
theorem dX3_setAsAtFirst_18 : decode cX3_setAsAtFirst 18 = .ok (.aload_n 0, 1) := by decide +kernel
theorem dX3_setAsAtFirst_19 : decode cX3_setAsAtFirst 19 = .ok (.iconst 0, 1) := by decide +kernel
theorem dX3_setAsAtFirst_20 : decode cX3_setAsAtFirst 20 = .ok (.putfield 43, 3) := by decide +kernel
theorem dX3_setAsAtFirst_23 : decode cX3_setAsAtFirst 23 = .ok (.aload_n 0, 1) := by decide +kernel
theorem dX3_setAsAtFirst_24 : decode cX3_setAsAtFirst 24 = .ok (.iconst 0, 1) := by decide +kernel
theorem dX3_setAsAtFirst_25 : decode cX3_setAsAtFirst 25 = .ok (.putfield 46, 3) := by decide +kernel
theorem dX3_setAsAtFirst_28 : decode cX3_setAsAtFirst 28 = .ok (.aload_n 0, 1) := by decide +kernel
theorem dX3_setAsAtFirst_29 : decode cX3_setAsAtFirst 29 = .ok (.iconst 1, 1) := by decide +kernel
theorem dX3_setAsAtFirst_30 : decode cX3_setAsAtFirst 30 = .ok (.putfield 49, 3) := by decide +kernel
theorem dX3_setAsAtFirst_33 : decode cX3_setAsAtFirst 33 = .ok (.aload_n 0, 1) := by decide +kernel
theorem dX3_setAsAtFirst_34 : decode cX3_setAsAtFirst 34 = .ok (.iconst 0, 1) := by decide +kernel
theorem dX3_setAsAtFirst_35 : decode cX3_setAsAtFirst 35 = .ok (.putfield 52, 3) := by decide +kernel
theorem dX3_setAsAtFirst_38 : decode cX3_setAsAtFirst 38 = .ok (.return_, 1) := by decide +kernel
theorem dX3_stateOf_0 : decode cX3_stateOf 0 = .ok (.iload_n 1, 1) := by decide +kernel
theorem dX3_stateOf_1 : decode cX3_stateOf 1 = .ok (.invokestatic 65, 3) := by decide +kernel
theorem dX3_stateOf_4 : decode cX3_stateOf 4 = .ok (.ifCond .ne 5, 3) := by decide +kernel
theorem dX3_stateOf_9 : decode cX3_stateOf 9 = .ok (.iload_n 1, 1) := by decide +kernel
theorem dX3_stateOf_10 : decode cX3_stateOf 10 = .ok (.aload_n 0, 1) := by decide +kernel
theorem dX3_stateOf_11 : decode cX3_stateOf 11 = .ok (.getfield 40, 3) := by decide +kernel
theorem dX3_stateOf_14 : decode cX3_stateOf 14 = .ok (.if_icmp .ne 7, 3) := by decide +kernel
theorem dX3_stateOf_21 : decode cX3_stateOf 21 = .ok (.aload_n 0, 1) := by decide +kernel
theorem dX3_stateOf_22 : decode cX3_stateOf 22 = .ok (.getfield 16, 3) := by decide +kernel
theorem dX3_stateOf_25 : decode cX3_stateOf 25 = .ok (.iload_n 1, 1) := by decide +kernel
theorem dX3_stateOf_26 : decode cX3_stateOf 26 = .ok (.iaload, 1) := by decide +kernel
theorem dX3_stateOf_27 : decode cX3_stateOf 27 = .ok (.ireturn, 1) := by decide +kernel
theorem dX3_isUsed_0 : decode cX3_isUsed 0 = .ok (.iload_n 1, 1) := by decide +kernel
theorem dX3_isUsed_1 : decode cX3_isUsed 1 = .ok (.invokestatic 65, 3) := by decide +kernel
theorem dX3_isUsed_4 : decode cX3_isUsed 4 = .ok (.ifCond .eq 17, 3) := by decide +kernel
theorem dX3_isUsed_7 : decode cX3_isUsed 7 = .ok (.aload_n 0, 1) := by decide +kernel
theorem dX3_isUsed_8 : decode cX3_isUsed 8 = .ok (.getfield 16, 3) := by decide +kernel
theorem dX3_isUsed_11 : decode cX3_isUsed 11 = .ok (.iload_n 1, 1) := by decide +kernel
theorem dX3_isUsed_12 : decode cX3_isUsed 12 = .ok (.iaload, 1) := by decide +kernel
theorem dX3_isUsed_13 : decode cX3_isUsed 13 = .ok (.iconst 1, 1) := by decide +kernel
theorem dX3_isUsed_14 : decode cX3_isUsed 14 = .ok (.if_icmp .ne 7, 3) := by decide +kernel
theorem dX3_isUsed_21 : decode cX3_isUsed 21 = .ok (.iconst 0, 1) := by decide +kernel
theorem dX3_isUsed_22 : decode cX3_isUsed 22 = .ok (.ireturn, 1) := by decide +kernel
theorem dX3_use_0 : decode cX3_use 0 = .ok (.iload_n 1, 1) := by decide +kernel
theorem dX3_use_1 : decode cX3_use 1 = .ok (.invokestatic 65, 3) := by decide +kernel
theorem dX3_use_4 : decode cX3_use 4 = .ok (.ifCond .eq 10, 3) := by decide +kernel
theorem dX3_use_7 : decode cX3_use 7 = .ok (.aload_n 0, 1) := by decide +kernel
theorem dX3_use_8 : decode cX3_use 8 = .ok (.getfield 16, 3) := by decide +kernel
theorem dX3_use_11 : decode cX3_use 11 = .ok (.iload_n 1, 1) := by decide +kernel
theorem dX3_use_12 : decode cX3_use 12 = .ok (.iconst 1, 1) := by decide +kernel
theorem dX3_use_13 : decode cX3_use 13 = .ok (.iastore, 1) := by decide +kernel
theorem dX3_use_14 : decode cX3_use 14 = .ok (.return_, 1) := by decide +kernel
theorem dX3_freeSpent_0 : decode cX3_freeSpent 0 = .ok (.bipush 8, 2) := by decide +kernel
theorem dX3_freeSpent_2 : decode cX3_freeSpent 2 = .ok (.istore_n 1, 1) := by decide +kernel
theorem dX3_freeSpent_3 : decode cX3_freeSpent 3 = .ok (.iload_n 1, 1) := by decide +kernel
theorem dX3_freeSpent_4 : decode cX3_freeSpent 4 = .ok (.bipush 64, 2) := by decide +kernel
theorem dX3_freeSpent_6 : decode cX3_freeSpent 6 = .ok (.if_icmp .ge 26, 3) := by decide +kernel
theorem dX3_freeSpent_9 : decode cX3_freeSpent 9 = .ok (.aload_n 0, 1) := by decide +kernel
theorem dX3_freeSpent_10 : decode cX3_freeSpent 10 = .ok (.getfield 16, 3) := by decide +kernel
theorem dX3_freeSpent_13 : decode cX3_freeSpent 13 = .ok (.iload_n 1, 1) := by decide +kernel
theorem dX3_freeSpent_14 : decode cX3_freeSpent 14 = .ok (.iaload, 1) := by decide +kernel
theorem dX3_freeSpent_15 : decode cX3_freeSpent 15 = .ok (.iconst 3, 1) := by decide +kernel
theorem dX3_freeSpent_16 : decode cX3_freeSpent 16 = .ok (.if_icmp .ne 10, 3) := by decide +kernel
theorem dX3_freeSpent_26 : decode cX3_freeSpent 26 = .ok (.iinc 1 1, 3) := by decide +kernel
theorem dX3_freeSpent_29 : decode cX3_freeSpent 29 = .ok (.goto (-26), 3) := by decide +kernel
theorem dX3_freeSpent_32 : decode cX3_freeSpent 32 = .ok (.return_, 1) := by decide +kernel
theorem dX3_countFree_0 : decode cX3_countFree 0 = .ok (.iconst 0, 1) := by decide +kernel
theorem dX3_countFree_1 : decode cX3_countFree 1 = .ok (.istore_n 1, 1) := by decide +kernel
theorem dX3_countFree_2 : decode cX3_countFree 2 = .ok (.bipush 8, 2) := by decide +kernel
theorem dX3_countFree_4 : decode cX3_countFree 4 = .ok (.istore_n 2, 1) := by decide +kernel
theorem dX3_countFree_5 : decode cX3_countFree 5 = .ok (.iload_n 2, 1) := by decide +kernel
theorem dX3_countFree_6 : decode cX3_countFree 6 = .ok (.bipush 64, 2) := by decide +kernel
theorem dX3_countFree_8 : decode cX3_countFree 8 = .ok (.if_icmp .ge 21, 3) := by decide +kernel
theorem dX3_countFree_11 : decode cX3_countFree 11 = .ok (.aload_n 0, 1) := by decide +kernel
theorem dX3_countFree_12 : decode cX3_countFree 12 = .ok (.getfield 16, 3) := by decide +kernel
theorem dX3_countFree_15 : decode cX3_countFree 15 = .ok (.iload_n 2, 1) := by decide +kernel
theorem dX3_countFree_16 : decode cX3_countFree 16 = .ok (.iaload, 1) := by decide +kernel
theorem dX3_countFree_17 : decode cX3_countFree 17 = .ok (.ifCond .ne 6, 3) := by decide +kernel
theorem dX3_countFree_20 : decode cX3_countFree 20 = .ok (.iinc 1 1, 3) := by decide +kernel
theorem dX3_countFree_23 : decode cX3_countFree 23 = .ok (.iinc 2 1, 3) := by decide +kernel
theorem dX3_countFree_26 : decode cX3_countFree 26 = .ok (.goto (-21), 3) := by decide +kernel
theorem dX3_countFree_29 : decode cX3_countFree 29 = .ok (.iload_n 1, 1) := by decide +kernel
theorem dX3_countFree_30 : decode cX3_countFree 30 = .ok (.ireturn, 1) := by decide +kernel
theorem dX3_forgetTimes_0 : decode cX3_forgetTimes 0 = .ok (.iload_n 1, 1) := by decide +kernel
theorem dX3_forgetTimes_1 : decode cX3_forgetTimes 1 = .ok (.invokestatic 65, 3) := by decide +kernel
theorem dX3_forgetTimes_4 : decode cX3_forgetTimes 4 = .ok (.ifCond .eq 10, 3) := by decide +kernel
theorem dX3_forgetTimes_7 : decode cX3_forgetTimes 7 = .ok (.aload_n 0, 1) := by decide +kernel
theorem dX3_forgetTimes_8 : decode cX3_forgetTimes 8 = .ok (.getfield 20, 3) := by decide +kernel
theorem dX3_forgetTimes_11 : decode cX3_forgetTimes 11 = .ok (.iload_n 1, 1) := by decide +kernel
theorem dX3_forgetTimes_12 : decode cX3_forgetTimes 12 = .ok (.iconst 0, 1) := by decide +kernel
theorem dX3_forgetTimes_13 : decode cX3_forgetTimes 13 = .ok (.bastore, 1) := by decide +kernel
theorem dX3_forgetTimes_14 : decode cX3_forgetTimes 14 = .ok (.return_, 1) := by decide +kernel
theorem dX3_noteTime_0 : decode cX3_noteTime 0 = .ok (.iload_n 1, 1) := by decide +kernel
theorem dX3_noteTime_1 : decode cX3_noteTime 1 = .ok (.invokestatic 65, 3) := by decide +kernel
theorem dX3_noteTime_4 : decode cX3_noteTime 4 = .ok (.ifCond .ne 4, 3) := by decide +kernel
theorem dX3_noteTime_8 : decode cX3_noteTime 8 = .ok (.aload_n 0, 1) := by decide +kernel
theorem dX3_noteTime_9 : decode cX3_noteTime 9 = .ok (.getfield 20, 3) := by decide +kernel
theorem dX3_noteTime_12 : decode cX3_noteTime 12 = .ok (.iload_n 1, 1) := by decide +kernel
theorem dX3_noteTime_13 : decode cX3_noteTime 13 = .ok (.baload, 1) := by decide +kernel
theorem dX3_noteTime_14 : decode cX3_noteTime 14 = .ok (.ifCond .eq 13, 3) := by decide +kernel
theorem dX3_noteTime_27 : decode cX3_noteTime 27 = .ok (.aload_n 0, 1) := by decide +kernel
theorem dX3_noteTime_28 : decode cX3_noteTime 28 = .ok (.getfield 24, 3) := by decide +kernel
theorem dX3_noteTime_31 : decode cX3_noteTime 31 = .ok (.iload_n 1, 1) := by decide +kernel
theorem dX3_noteTime_32 : decode cX3_noteTime 32 = .ok (.iload_n 2, 1) := by decide +kernel
theorem dX3_noteTime_33 : decode cX3_noteTime 33 = .ok (.iastore, 1) := by decide +kernel
theorem dX3_noteTime_34 : decode cX3_noteTime 34 = .ok (.aload_n 0, 1) := by decide +kernel
theorem dX3_noteTime_35 : decode cX3_noteTime 35 = .ok (.getfield 20, 3) := by decide +kernel
theorem dX3_noteTime_38 : decode cX3_noteTime 38 = .ok (.iload_n 1, 1) := by decide +kernel
theorem dX3_noteTime_39 : decode cX3_noteTime 39 = .ok (.iconst 1, 1) := by decide +kernel
theorem dX3_noteTime_40 : decode cX3_noteTime 40 = .ok (.bastore, 1) := by decide +kernel
theorem dX3_noteTime_41 : decode cX3_noteTime 41 = .ok (.return_, 1) := by decide +kernel
theorem dX3_fits_0 : decode cX3_fits 0 = .ok (.aload_n 0, 1) := by decide +kernel
theorem dX3_fits_1 : decode cX3_fits 1 = .ok (.getfield 40, 3) := by decide +kernel
theorem dX3_fits_4 : decode cX3_fits 4 = .ok (.ifCond .eq 19, 3) := by decide +kernel
theorem dX3_fits_23 : decode cX3_fits 23 = .ok (.iconst 0, 1) := by decide +kernel
theorem dX3_fits_24 : decode cX3_fits 24 = .ok (.ireturn, 1) := by decide +kernel
theorem dX3_hasRoomFor_0 : decode cX3_hasRoomFor 0 = .ok (.aload_n 0, 1) := by decide +kernel
theorem dX3_hasRoomFor_1 : decode cX3_hasRoomFor 1 = .ok (.iload_n 1, 1) := by decide +kernel
theorem dX3_hasRoomFor_2 : decode cX3_hasRoomFor 2 = .ok (.invokevirtual 90, 3) := by decide +kernel
theorem dX3_hasRoomFor_5 : decode cX3_hasRoomFor 5 = .ok (.ifCond .ne 11, 3) := by decide +kernel
theorem dX3_hasRoomFor_8 : decode cX3_hasRoomFor 8 = .ok (.aload_n 0, 1) := by decide +kernel
theorem dX3_hasRoomFor_9 : decode cX3_hasRoomFor 9 = .ok (.invokevirtual 93, 3) := by decide +kernel
theorem dX3_hasRoomFor_12 : decode cX3_hasRoomFor 12 = .ok (.iconst 2, 1) := by decide +kernel
theorem dX3_hasRoomFor_13 : decode cX3_hasRoomFor 13 = .ok (.if_icmp .le 7, 3) := by decide +kernel
theorem dX3_hasRoomFor_16 : decode cX3_hasRoomFor 16 = .ok (.iconst 1, 1) := by decide +kernel
theorem dX3_hasRoomFor_17 : decode cX3_hasRoomFor 17 = .ok (.goto 4, 3) := by decide +kernel
theorem dX3_hasRoomFor_21 : decode cX3_hasRoomFor 21 = .ok (.ireturn, 1) := by decide +kernel
theorem dX3_append_0 : decode cX3_append 0 = .ok (.aload_n 0, 1) := by decide +kernel
theorem dX3_append_1 : decode cX3_append 1 = .ok (.bipush 16, 2) := by decide +kernel
theorem dX3_append_3 : decode cX3_append 3 = .ok (.iload 6, 2) := by decide +kernel
theorem dX3_append_5 : decode cX3_append 5 = .ok (.iadd, 1) := by decide +kernel
theorem dX3_append_6 : decode cX3_append 6 = .ok (.invokevirtual 90, 3) := by decide +kernel
theorem dX3_append_9 : decode cX3_append 9 = .ok (.ifCond .ne 7, 3) := by decide +kernel
theorem dX3_append_12 : decode cX3_append 12 = .ok (.aload_n 0, 1) := by decide +kernel
theorem dX3_append_13 : decode cX3_append 13 = .ok (.invokevirtual 97, 3) := by decide +kernel
theorem dX3_append_16 : decode cX3_append 16 = .ok (.aload_n 0, 1) := by decide +kernel
theorem dX3_append_17 : decode cX3_append 17 = .ok (.getfield 49, 3) := by decide +kernel
theorem dX3_append_20 : decode cX3_append 20 = .ok (.istore 7, 2) := by decide +kernel
theorem dX3_append_22 : decode cX3_append 22 = .ok (.aload_n 0, 1) := by decide +kernel
theorem dX3_append_23 : decode cX3_append 23 = .ok (.dup, 1) := by decide +kernel
theorem dX3_append_24 : decode cX3_append 24 = .ok (.getfield 49, 3) := by decide +kernel
theorem dX3_append_27 : decode cX3_append 27 = .ok (.iconst 1, 1) := by decide +kernel
theorem dX3_append_28 : decode cX3_append 28 = .ok (.iadd, 1) := by decide +kernel
theorem dX3_append_29 : decode cX3_append 29 = .ok (.putfield 49, 3) := by decide +kernel
theorem dX3_append_32 : decode cX3_append 32 = .ok (.aload_n 0, 1) := by decide +kernel
theorem dX3_append_33 : decode cX3_append 33 = .ok (.getfield 40, 3) := by decide +kernel
theorem dX3_append_36 : decode cX3_append 36 = .ok (.sipush 1024, 3) := by decide +kernel
theorem dX3_append_39 : decode cX3_append 39 = .ok (.imul, 1) := by decide +kernel
theorem dX3_append_40 : decode cX3_append 40 = .ok (.aload_n 0, 1) := by decide +kernel
theorem dX3_append_41 : decode cX3_append 41 = .ok (.getfield 43, 3) := by decide +kernel
theorem dX3_append_44 : decode cX3_append 44 = .ok (.iadd, 1) := by decide +kernel
theorem dX3_append_45 : decode cX3_append 45 = .ok (.istore 8, 2) := by decide +kernel
theorem dX3_append_47 : decode cX3_append 47 = .ok (.aload_n 0, 1) := by decide +kernel
theorem dX3_append_48 : decode cX3_append 48 = .ok (.getfield 10, 3) := by decide +kernel
theorem dX3_append_51 : decode cX3_append 51 = .ok (.iload 8, 2) := by decide +kernel
theorem dX3_append_53 : decode cX3_append 53 = .ok (.iconst 1, 1) := by decide +kernel
theorem dX3_append_54 : decode cX3_append 54 = .ok (.iload_n 1, 1) := by decide +kernel
theorem dX3_append_55 : decode cX3_append 55 = .ok (.invokestatic 100, 3) := by decide +kernel
theorem dX3_append_58 : decode cX3_append 58 = .ok (.aload_n 0, 1) := by decide +kernel
theorem dX3_append_59 : decode cX3_append 59 = .ok (.getfield 10, 3) := by decide +kernel
theorem dX3_append_62 : decode cX3_append 62 = .ok (.iload 8, 2) := by decide +kernel
theorem dX3_append_64 : decode cX3_append 64 = .ok (.iconst 1, 1) := by decide +kernel
theorem dX3_append_65 : decode cX3_append 65 = .ok (.iadd, 1) := by decide +kernel
theorem dX3_append_66 : decode cX3_append 66 = .ok (.iconst 2, 1) := by decide +kernel
theorem dX3_append_67 : decode cX3_append 67 = .ok (.iload_n 2, 1) := by decide +kernel
theorem dX3_append_68 : decode cX3_append 68 = .ok (.invokestatic 100, 3) := by decide +kernel
theorem dX3_append_71 : decode cX3_append 71 = .ok (.aload_n 0, 1) := by decide +kernel
theorem dX3_append_72 : decode cX3_append 72 = .ok (.getfield 10, 3) := by decide +kernel
theorem dX3_append_75 : decode cX3_append 75 = .ok (.iload 8, 2) := by decide +kernel
theorem dX3_append_77 : decode cX3_append 77 = .ok (.iconst 3, 1) := by decide +kernel
theorem dX3_append_78 : decode cX3_append 78 = .ok (.iadd, 1) := by decide +kernel
theorem dX3_append_79 : decode cX3_append 79 = .ok (.iconst 1, 1) := by decide +kernel
theorem dX3_append_80 : decode cX3_append 80 = .ok (.iload 6, 2) := by decide +kernel
theorem dX3_append_82 : decode cX3_append 82 = .ok (.invokestatic 100, 3) := by decide +kernel
theorem dX3_append_85 : decode cX3_append 85 = .ok (.aload_n 0, 1) := by decide +kernel
theorem dX3_append_86 : decode cX3_append 86 = .ok (.getfield 10, 3) := by decide +kernel
theorem dX3_append_89 : decode cX3_append 89 = .ok (.iload 8, 2) := by decide +kernel
theorem dX3_append_91 : decode cX3_append 91 = .ok (.iconst 4, 1) := by decide +kernel
theorem dX3_append_92 : decode cX3_append 92 = .ok (.iadd, 1) := by decide +kernel
theorem dX3_append_93 : decode cX3_append 93 = .ok (.iconst 4, 1) := by decide +kernel
theorem dX3_append_94 : decode cX3_append 94 = .ok (.iload 7, 2) := by decide +kernel
theorem dX3_append_96 : decode cX3_append 96 = .ok (.invokestatic 100, 3) := by decide +kernel
theorem dX3_append_99 : decode cX3_append 99 = .ok (.aload_n 0, 1) := by decide +kernel
theorem dX3_append_100 : decode cX3_append 100 = .ok (.getfield 10, 3) := by decide +kernel
theorem dX3_append_103 : decode cX3_append 103 = .ok (.iload 8, 2) := by decide +kernel
theorem dX3_append_105 : decode cX3_append 105 = .ok (.bipush 8, 2) := by decide +kernel
theorem dX3_append_107 : decode cX3_append 107 = .ok (.iadd, 1) := by decide +kernel
theorem dX3_append_108 : decode cX3_append 108 = .ok (.iconst 4, 1) := by decide +kernel
theorem dX3_append_109 : decode cX3_append 109 = .ok (.iload_n 3, 1) := by decide +kernel
theorem dX3_append_110 : decode cX3_append 110 = .ok (.invokestatic 100, 3) := by decide +kernel
theorem dX3_append_113 : decode cX3_append 113 = .ok (.aload 4, 2) := by decide +kernel
theorem dX3_append_115 : decode cX3_append 115 = .ok (.iload 5, 2) := by decide +kernel
theorem dX3_append_117 : decode cX3_append 117 = .ok (.aload_n 0, 1) := by decide +kernel
theorem dX3_append_118 : decode cX3_append 118 = .ok (.getfield 10, 3) := by decide +kernel
theorem dX3_append_121 : decode cX3_append 121 = .ok (.iload 8, 2) := by decide +kernel
theorem dX3_append_123 : decode cX3_append 123 = .ok (.bipush 12, 2) := by decide +kernel
theorem dX3_append_125 : decode cX3_append 125 = .ok (.iadd, 1) := by decide +kernel
theorem dX3_append_126 : decode cX3_append 126 = .ok (.iload 6, 2) := by decide +kernel
theorem dX3_append_128 : decode cX3_append 128 = .ok (.invokestatic 104, 3) := by decide +kernel
theorem dX3_append_131 : decode cX3_append 131 = .ok (.aload_n 0, 1) := by decide +kernel
theorem dX3_append_132 : decode cX3_append 132 = .ok (.getfield 10, 3) := by decide +kernel
theorem dX3_append_135 : decode cX3_append 135 = .ok (.iload 8, 2) := by decide +kernel
theorem dX3_append_137 : decode cX3_append 137 = .ok (.bipush 12, 2) := by decide +kernel
theorem dX3_append_139 : decode cX3_append 139 = .ok (.iload 6, 2) := by decide +kernel
theorem dX3_append_141 : decode cX3_append 141 = .ok (.iadd, 1) := by decide +kernel
theorem dX3_append_142 : decode cX3_append 142 = .ok (.invokestatic 108, 3) := by decide +kernel
theorem dX3_append_145 : decode cX3_append 145 = .ok (.aload_n 0, 1) := by decide +kernel
theorem dX3_append_146 : decode cX3_append 146 = .ok (.getfield 55, 3) := by decide +kernel
theorem dX3_append_149 : decode cX3_append 149 = .ok (.iload_n 1, 1) := by decide +kernel
theorem dX3_append_150 : decode cX3_append 150 = .ok (.iload_n 2, 1) := by decide +kernel
theorem dX3_append_151 : decode cX3_append 151 = .ok (.aload_n 0, 1) := by decide +kernel
theorem dX3_append_152 : decode cX3_append 152 = .ok (.getfield 40, 3) := by decide +kernel
theorem dX3_append_155 : decode cX3_append 155 = .ok (.aload_n 0, 1) := by decide +kernel
theorem dX3_append_156 : decode cX3_append 156 = .ok (.getfield 43, 3) := by decide +kernel
theorem dX3_append_159 : decode cX3_append 159 = .ok (.invokevirtual 112, 3) := by decide +kernel
theorem dX3_append_162 : decode cX3_append 162 = .ok (.aload_n 0, 1) := by decide +kernel
theorem dX3_append_163 : decode cX3_append 163 = .ok (.aload_n 0, 1) := by decide +kernel
theorem dX3_append_164 : decode cX3_append 164 = .ok (.getfield 40, 3) := by decide +kernel
theorem dX3_append_167 : decode cX3_append 167 = .ok (.iload_n 3, 1) := by decide +kernel
theorem dX3_append_168 : decode cX3_append 168 = .ok (.invokevirtual 116, 3) := by decide +kernel
theorem dX3_append_171 : decode cX3_append 171 = .ok (.aload_n 0, 1) := by decide +kernel
theorem dX3_append_172 : decode cX3_append 172 = .ok (.bipush 16, 2) := by decide +kernel
theorem dX3_append_174 : decode cX3_append 174 = .ok (.iload 6, 2) := by decide +kernel
theorem dX3_append_176 : decode cX3_append 176 = .ok (.iadd, 1) := by decide +kernel
theorem dX3_append_177 : decode cX3_append 177 = .ok (.invokevirtual 120, 3) := by decide +kernel
theorem dX3_append_180 : decode cX3_append 180 = .ok (.iload 7, 2) := by decide +kernel
theorem dX3_append_182 : decode cX3_append 182 = .ok (.ireturn, 1) := by decide +kernel
theorem dX3_openNext_0 : decode cX3_openNext 0 = .ok (.aload_n 0, 1) := by decide +kernel
theorem dX3_openNext_1 : decode cX3_openNext 1 = .ok (.invokevirtual 124, 3) := by decide +kernel
theorem dX3_openNext_4 : decode cX3_openNext 4 = .ok (.istore_n 1, 1) := by decide +kernel
theorem dX3_openNext_5 : decode cX3_openNext 5 = .ok (.iload_n 1, 1) := by decide +kernel
theorem dX3_openNext_6 : decode cX3_openNext 6 = .ok (.ifCond .ne 4, 3) := by decide +kernel
theorem dX3_openNext_10 : decode cX3_openNext 10 = .ok (.aload_n 0, 1) := by decide +kernel
theorem dX3_openNext_11 : decode cX3_openNext 11 = .ok (.iload_n 1, 1) := by decide +kernel
theorem dX3_openNext_12 : decode cX3_openNext 12 = .ok (.invokevirtual 127, 3) := by decide +kernel
theorem dX3_openNext_15 : decode cX3_openNext 15 = .ok (.aload_n 0, 1) := by decide +kernel
theorem dX3_openNext_16 : decode cX3_openNext 16 = .ok (.iload_n 1, 1) := by decide +kernel
theorem dX3_openNext_17 : decode cX3_openNext 17 = .ok (.invokevirtual 130, 3) := by decide +kernel
theorem dX3_openNext_20 : decode cX3_openNext 20 = .ok (.aload_n 0, 1) := by decide +kernel
theorem dX3_openNext_21 : decode cX3_openNext 21 = .ok (.iload_n 1, 1) := by decide +kernel
theorem dX3_openNext_22 : decode cX3_openNext 22 = .ok (.putfield 40, 3) := by decide +kernel
theorem dX3_openNext_25 : decode cX3_openNext 25 = .ok (.aload_n 0, 1) := by decide +kernel
theorem dX3_openNext_26 : decode cX3_openNext 26 = .ok (.iconst 0, 1) := by decide +kernel
theorem dX3_openNext_27 : decode cX3_openNext 27 = .ok (.putfield 43, 3) := by decide +kernel
theorem dX3_openNext_30 : decode cX3_openNext 30 = .ok (.aload_n 0, 1) := by decide +kernel
theorem dX3_openNext_31 : decode cX3_openNext 31 = .ok (.dup, 1) := by decide +kernel
theorem dX3_openNext_32 : decode cX3_openNext 32 = .ok (.getfield 46, 3) := by decide +kernel
theorem dX3_openNext_35 : decode cX3_openNext 35 = .ok (.iconst 1, 1) := by decide +kernel
theorem dX3_openNext_36 : decode cX3_openNext 36 = .ok (.iadd, 1) := by decide +kernel
theorem dX3_openNext_37 : decode cX3_openNext 37 = .ok (.putfield 46, 3) := by decide +kernel
theorem dX3_openNext_40 : decode cX3_openNext 40 = .ok (.iload_n 1, 1) := by decide +kernel
theorem dX3_openNext_41 : decode cX3_openNext 41 = .ok (.sipush 1024, 3) := by decide +kernel
theorem dX3_openNext_44 : decode cX3_openNext 44 = .ok (.imul, 1) := by decide +kernel
theorem dX3_openNext_45 : decode cX3_openNext 45 = .ok (.istore_n 2, 1) := by decide +kernel
theorem dX3_openNext_46 : decode cX3_openNext 46 = .ok (.aload_n 0, 1) := by decide +kernel
theorem dX3_openNext_47 : decode cX3_openNext 47 = .ok (.getfield 10, 3) := by decide +kernel
theorem dX3_openNext_50 : decode cX3_openNext 50 = .ok (.iload_n 2, 1) := by decide +kernel
theorem dX3_openNext_51 : decode cX3_openNext 51 = .ok (.sipush 1024, 3) := by decide +kernel
theorem dX3_openNext_54 : decode cX3_openNext 54 = .ok (.invokestatic 133, 3) := by decide +kernel
theorem dX3_openNext_57 : decode cX3_openNext 57 = .ok (.aload_n 0, 1) := by decide +kernel
theorem dX3_openNext_58 : decode cX3_openNext 58 = .ok (.getfield 10, 3) := by decide +kernel
theorem dX3_openNext_61 : decode cX3_openNext 61 = .ok (.iload_n 2, 1) := by decide +kernel
theorem dX3_openNext_62 : decode cX3_openNext 62 = .ok (.iconst 1, 1) := by decide +kernel
theorem dX3_openNext_63 : decode cX3_openNext 63 = .ok (.bipush 76, 2) := by decide +kernel
theorem dX3_openNext_65 : decode cX3_openNext 65 = .ok (.invokestatic 100, 3) := by decide +kernel
theorem dX3_openNext_68 : decode cX3_openNext 68 = .ok (.aload_n 0, 1) := by decide +kernel
theorem dX3_openNext_69 : decode cX3_openNext 69 = .ok (.getfield 10, 3) := by decide +kernel
theorem dX3_openNext_72 : decode cX3_openNext 72 = .ok (.iload_n 2, 1) := by decide +kernel
theorem dX3_openNext_73 : decode cX3_openNext 73 = .ok (.iconst 1, 1) := by decide +kernel
theorem dX3_openNext_74 : decode cX3_openNext 74 = .ok (.iadd, 1) := by decide +kernel
theorem dX3_openNext_75 : decode cX3_openNext 75 = .ok (.iconst 1, 1) := by decide +kernel
theorem dX3_openNext_76 : decode cX3_openNext 76 = .ok (.bipush 71, 2) := by decide +kernel
theorem dX3_openNext_78 : decode cX3_openNext 78 = .ok (.invokestatic 100, 3) := by decide +kernel
theorem dX3_openNext_81 : decode cX3_openNext 81 = .ok (.aload_n 0, 1) := by decide +kernel
theorem dX3_openNext_82 : decode cX3_openNext 82 = .ok (.getfield 10, 3) := by decide +kernel
theorem dX3_openNext_85 : decode cX3_openNext 85 = .ok (.iload_n 2, 1) := by decide +kernel
theorem dX3_openNext_86 : decode cX3_openNext 86 = .ok (.iconst 2, 1) := by decide +kernel
theorem dX3_openNext_87 : decode cX3_openNext 87 = .ok (.iadd, 1) := by decide +kernel
theorem dX3_openNext_88 : decode cX3_openNext 88 = .ok (.iconst 4, 1) := by decide +kernel
theorem dX3_openNext_89 : decode cX3_openNext 89 = .ok (.aload_n 0, 1) := by decide +kernel
theorem dX3_openNext_90 : decode cX3_openNext 90 = .ok (.getfield 46, 3) := by decide +kernel
theorem dX3_openNext_93 : decode cX3_openNext 93 = .ok (.invokestatic 100, 3) := by decide +kernel
theorem dX3_openNext_96 : decode cX3_openNext 96 = .ok (.aload_n 0, 1) := by decide +kernel
theorem dX3_openNext_97 : decode cX3_openNext 97 = .ok (.getfield 10, 3) := by decide +kernel
theorem dX3_openNext_100 : decode cX3_openNext 100 = .ok (.iload_n 2, 1) := by decide +kernel
theorem dX3_openNext_101 : decode cX3_openNext 101 = .ok (.bipush 6, 2) := by decide +kernel
theorem dX3_openNext_103 : decode cX3_openNext 103 = .ok (.invokestatic 108, 3) := by decide +kernel
theorem dX3_openNext_106 : decode cX3_openNext 106 = .ok (.aload_n 0, 1) := by decide +kernel
theorem dX3_openNext_107 : decode cX3_openNext 107 = .ok (.bipush 10, 2) := by decide +kernel
theorem dX3_openNext_109 : decode cX3_openNext 109 = .ok (.invokevirtual 120, 3) := by decide +kernel
theorem dX3_openNext_112 : decode cX3_openNext 112 = .ok (.return_, 1) := by decide +kernel
theorem dX3_leastFree_0 : decode cX3_leastFree 0 = .ok (.bipush 8, 2) := by decide +kernel
theorem dX3_leastFree_2 : decode cX3_leastFree 2 = .ok (.istore_n 1, 1) := by decide +kernel
theorem dX3_leastFree_3 : decode cX3_leastFree 3 = .ok (.iload_n 1, 1) := by decide +kernel
theorem dX3_leastFree_4 : decode cX3_leastFree 4 = .ok (.bipush 64, 2) := by decide +kernel
theorem dX3_leastFree_6 : decode cX3_leastFree 6 = .ok (.if_icmp .ge 20, 3) := by decide +kernel
theorem dX3_leastFree_9 : decode cX3_leastFree 9 = .ok (.aload_n 0, 1) := by decide +kernel
theorem dX3_leastFree_10 : decode cX3_leastFree 10 = .ok (.getfield 16, 3) := by decide +kernel
theorem dX3_leastFree_13 : decode cX3_leastFree 13 = .ok (.iload_n 1, 1) := by decide +kernel
theorem dX3_leastFree_14 : decode cX3_leastFree 14 = .ok (.iaload, 1) := by decide +kernel
theorem dX3_leastFree_15 : decode cX3_leastFree 15 = .ok (.ifCond .ne 5, 3) := by decide +kernel
theorem dX3_leastFree_18 : decode cX3_leastFree 18 = .ok (.iload_n 1, 1) := by decide +kernel
theorem dX3_leastFree_19 : decode cX3_leastFree 19 = .ok (.ireturn, 1) := by decide +kernel
theorem dX3_noteFresh_0 : decode cX3_noteFresh 0 = .ok (.aload_n 0, 1) := by decide +kernel
theorem dX3_noteFresh_1 : decode cX3_noteFresh 1 = .ok (.getfield 40, 3) := by decide +kernel
theorem dX3_noteFresh_4 : decode cX3_noteFresh 4 = .ok (.invokestatic 65, 3) := by decide +kernel
theorem dX3_noteFresh_7 : decode cX3_noteFresh 7 = .ok (.ifCond .ne 4, 3) := by decide +kernel
theorem dX3_noteFresh_11 : decode cX3_noteFresh 11 = .ok (.aload_n 0, 1) := by decide +kernel
theorem dX3_noteFresh_12 : decode cX3_noteFresh 12 = .ok (.getfield 36, 3) := by decide +kernel
theorem dX3_noteFresh_15 : decode cX3_noteFresh 15 = .ok (.ifCond .le 25, 3) := by decide +kernel
theorem dX3_noteFresh_18 : decode cX3_noteFresh 18 = .ok (.aload_n 0, 1) := by decide +kernel
theorem dX3_noteFresh_19 : decode cX3_noteFresh 19 = .ok (.getfield 27, 3) := by decide +kernel
theorem dX3_noteFresh_22 : decode cX3_noteFresh 22 = .ok (.aload_n 0, 1) := by decide +kernel
theorem dX3_noteFresh_23 : decode cX3_noteFresh 23 = .ok (.getfield 36, 3) := by decide +kernel
theorem dX3_noteFresh_26 : decode cX3_noteFresh 26 = .ok (.iconst 1, 1) := by decide +kernel
theorem dX3_noteFresh_27 : decode cX3_noteFresh 27 = .ok (.isub, 1) := by decide +kernel
theorem dX3_noteFresh_28 : decode cX3_noteFresh 28 = .ok (.iaload, 1) := by decide +kernel
theorem dX3_noteFresh_29 : decode cX3_noteFresh 29 = .ok (.aload_n 0, 1) := by decide +kernel
theorem dX3_noteFresh_30 : decode cX3_noteFresh 30 = .ok (.getfield 40, 3) := by decide +kernel
theorem dX3_noteFresh_33 : decode cX3_noteFresh 33 = .ok (.if_icmp .ne 7, 3) := by decide +kernel
theorem dX3_noteFresh_36 : decode cX3_noteFresh 36 = .ok (.iconst 1, 1) := by decide +kernel
theorem dX3_noteFresh_37 : decode cX3_noteFresh 37 = .ok (.goto 4, 3) := by decide +kernel
theorem dX3_noteFresh_40 : decode cX3_noteFresh 40 = .ok (.iconst 0, 1) := by decide +kernel
theorem dX3_noteFresh_41 : decode cX3_noteFresh 41 = .ok (.istore_n 2, 1) := by decide +kernel
theorem dX3_noteFresh_42 : decode cX3_noteFresh 42 = .ok (.iload_n 2, 1) := by decide +kernel
theorem dX3_noteFresh_43 : decode cX3_noteFresh 43 = .ok (.ifCond .ne 48, 3) := by decide +kernel
theorem dX3_noteFresh_46 : decode cX3_noteFresh 46 = .ok (.aload_n 0, 1) := by decide +kernel
theorem dX3_noteFresh_47 : decode cX3_noteFresh 47 = .ok (.getfield 36, 3) := by decide +kernel
theorem dX3_noteFresh_50 : decode cX3_noteFresh 50 = .ok (.bipush 64, 2) := by decide +kernel
theorem dX3_noteFresh_52 : decode cX3_noteFresh 52 = .ok (.if_icmp .ge 39, 3) := by decide +kernel
theorem dX3_noteFresh_55 : decode cX3_noteFresh 55 = .ok (.aload_n 0, 1) := by decide +kernel
theorem dX3_noteFresh_56 : decode cX3_noteFresh 56 = .ok (.getfield 27, 3) := by decide +kernel
theorem dX3_noteFresh_59 : decode cX3_noteFresh 59 = .ok (.aload_n 0, 1) := by decide +kernel
theorem dX3_noteFresh_60 : decode cX3_noteFresh 60 = .ok (.getfield 36, 3) := by decide +kernel
theorem dX3_noteFresh_63 : decode cX3_noteFresh 63 = .ok (.aload_n 0, 1) := by decide +kernel
theorem dX3_noteFresh_64 : decode cX3_noteFresh 64 = .ok (.getfield 40, 3) := by decide +kernel
theorem dX3_noteFresh_67 : decode cX3_noteFresh 67 = .ok (.iastore, 1) := by decide +kernel
theorem dX3_noteFresh_68 : decode cX3_noteFresh 68 = .ok (.aload_n 0, 1) := by decide +kernel
theorem dX3_noteFresh_69 : decode cX3_noteFresh 69 = .ok (.dup, 1) := by decide +kernel
theorem dX3_noteFresh_70 : decode cX3_noteFresh 70 = .ok (.getfield 36, 3) := by decide +kernel
theorem dX3_noteFresh_73 : decode cX3_noteFresh 73 = .ok (.iconst 1, 1) := by decide +kernel
theorem dX3_noteFresh_74 : decode cX3_noteFresh 74 = .ok (.iadd, 1) := by decide +kernel
theorem dX3_noteFresh_75 : decode cX3_noteFresh 75 = .ok (.putfield 36, 3) := by decide +kernel
theorem dX3_noteFresh_78 : decode cX3_noteFresh 78 = .ok (.aload_n 0, 1) := by decide +kernel
theorem dX3_noteFresh_79 : decode cX3_noteFresh 79 = .ok (.getfield 30, 3) := by decide +kernel
theorem dX3_noteFresh_82 : decode cX3_noteFresh 82 = .ok (.aload_n 0, 1) := by decide +kernel
theorem dX3_noteFresh_83 : decode cX3_noteFresh 83 = .ok (.getfield 40, 3) := by decide +kernel
theorem dX3_noteFresh_86 : decode cX3_noteFresh 86 = .ok (.aload_n 0, 1) := by decide +kernel
theorem dX3_noteFresh_87 : decode cX3_noteFresh 87 = .ok (.getfield 43, 3) := by decide +kernel
theorem dX3_noteFresh_90 : decode cX3_noteFresh 90 = .ok (.iastore, 1) := by decide +kernel
theorem dX3_noteFresh_91 : decode cX3_noteFresh 91 = .ok (.aload_n 0, 1) := by decide +kernel
theorem dX3_noteFresh_92 : decode cX3_noteFresh 92 = .ok (.dup, 1) := by decide +kernel
theorem dX3_noteFresh_93 : decode cX3_noteFresh 93 = .ok (.getfield 43, 3) := by decide +kernel
theorem dX3_noteFresh_96 : decode cX3_noteFresh 96 = .ok (.iload_n 1, 1) := by decide +kernel
theorem dX3_noteFresh_97 : decode cX3_noteFresh 97 = .ok (.iadd, 1) := by decide +kernel
theorem dX3_noteFresh_98 : decode cX3_noteFresh 98 = .ok (.putfield 43, 3) := by decide +kernel
theorem dX3_noteFresh_101 : decode cX3_noteFresh 101 = .ok (.aload_n 0, 1) := by decide +kernel
theorem dX3_noteFresh_102 : decode cX3_noteFresh 102 = .ok (.getfield 33, 3) := by decide +kernel
theorem dX3_noteFresh_105 : decode cX3_noteFresh 105 = .ok (.aload_n 0, 1) := by decide +kernel
theorem dX3_noteFresh_106 : decode cX3_noteFresh 106 = .ok (.getfield 40, 3) := by decide +kernel
theorem dX3_noteFresh_109 : decode cX3_noteFresh 109 = .ok (.aload_n 0, 1) := by decide +kernel
theorem dX3_noteFresh_110 : decode cX3_noteFresh 110 = .ok (.getfield 43, 3) := by decide +kernel
theorem dX3_noteFresh_113 : decode cX3_noteFresh 113 = .ok (.iastore, 1) := by decide +kernel
theorem dX3_noteFresh_114 : decode cX3_noteFresh 114 = .ok (.return_, 1) := by decide +kernel
theorem dX3_countFreshOctets_0 : decode cX3_countFreshOctets 0 = .ok (.iconst 0, 1) := by decide +kernel
theorem dX3_countFreshOctets_1 : decode cX3_countFreshOctets 1 = .ok (.istore_n 1, 1) := by decide +kernel
theorem dX3_countFreshOctets_2 : decode cX3_countFreshOctets 2 = .ok (.iconst 0, 1) := by decide +kernel
theorem dX3_countFreshOctets_3 : decode cX3_countFreshOctets 3 = .ok (.istore_n 2, 1) := by decide +kernel
theorem dX3_countFreshOctets_4 : decode cX3_countFreshOctets 4 = .ok (.iload_n 2, 1) := by decide +kernel
theorem dX3_countFreshOctets_5 : decode cX3_countFreshOctets 5 = .ok (.aload_n 0, 1) := by decide +kernel
theorem dX3_countFreshOctets_6 : decode cX3_countFreshOctets 6 = .ok (.getfield 36, 3) := by decide +kernel
theorem dX3_countFreshOctets_9 : decode cX3_countFreshOctets 9 = .ok (.if_icmp .ge 35, 3) := by decide +kernel
theorem dX3_countFreshOctets_44 : decode cX3_countFreshOctets 44 = .ok (.iload_n 1, 1) := by decide +kernel
theorem dX3_countFreshOctets_45 : decode cX3_countFreshOctets 45 = .ok (.ireturn, 1) := by decide +kernel
theorem dX3_writeFresh_0 : decode cX3_writeFresh 0 = .ok (.iconst 0, 1) := by decide +kernel
theorem dX3_writeFresh_1 : decode cX3_writeFresh 1 = .ok (.istore_n 2, 1) := by decide +kernel
theorem dX3_writeFresh_2 : decode cX3_writeFresh 2 = .ok (.iconst 0, 1) := by decide +kernel
theorem dX3_writeFresh_3 : decode cX3_writeFresh 3 = .ok (.istore_n 3, 1) := by decide +kernel
theorem dX3_writeFresh_4 : decode cX3_writeFresh 4 = .ok (.iload_n 3, 1) := by decide +kernel
theorem dX3_writeFresh_5 : decode cX3_writeFresh 5 = .ok (.aload_n 0, 1) := by decide +kernel
theorem dX3_writeFresh_6 : decode cX3_writeFresh 6 = .ok (.getfield 36, 3) := by decide +kernel
theorem dX3_writeFresh_9 : decode cX3_writeFresh 9 = .ok (.if_icmp .ge 37, 3) := by decide +kernel
theorem dX3_writeFresh_46 : decode cX3_writeFresh 46 = .ok (.aload_n 0, 1) := by decide +kernel
theorem dX3_writeFresh_47 : decode cX3_writeFresh 47 = .ok (.iconst 0, 1) := by decide +kernel
theorem dX3_writeFresh_48 : decode cX3_writeFresh 48 = .ok (.putfield 36, 3) := by decide +kernel
theorem dX3_writeFresh_51 : decode cX3_writeFresh 51 = .ok (.iload_n 2, 1) := by decide +kernel
theorem dX3_writeFresh_52 : decode cX3_writeFresh 52 = .ok (.ireturn, 1) := by decide +kernel
theorem dX3_loadMemory_0 : decode cX3_loadMemory 0 = .ok (.bipush 8, 2) := by decide +kernel
theorem dX3_loadMemory_2 : decode cX3_loadMemory 2 = .ok (.istore_n 2, 1) := by decide +kernel
theorem dX3_loadMemory_3 : decode cX3_loadMemory 3 = .ok (.iload_n 2, 1) := by decide +kernel
theorem dX3_loadMemory_4 : decode cX3_loadMemory 4 = .ok (.bipush 64, 2) := by decide +kernel
theorem dX3_loadMemory_6 : decode cX3_loadMemory 6 = .ok (.if_icmp .ge 39, 3) := by decide +kernel
theorem dX3_loadMemory_9 : decode cX3_loadMemory 9 = .ok (.iload_n 2, 1) := by decide +kernel
theorem dX3_loadMemory_10 : decode cX3_loadMemory 10 = .ok (.sipush 1024, 3) := by decide +kernel
theorem dX3_loadMemory_13 : decode cX3_loadMemory 13 = .ok (.imul, 1) := by decide +kernel
theorem dX3_loadMemory_14 : decode cX3_loadMemory 14 = .ok (.istore_n 3, 1) := by decide +kernel
theorem dX3_loadMemory_15 : decode cX3_loadMemory 15 = .ok (.aload_n 0, 1) := by decide +kernel
theorem dX3_loadMemory_16 : decode cX3_loadMemory 16 = .ok (.iload_n 2, 1) := by decide +kernel
theorem dX3_loadMemory_17 : decode cX3_loadMemory 17 = .ok (.invokevirtual 156, 3) := by decide +kernel
theorem dX3_loadMemory_20 : decode cX3_loadMemory 20 = .ok (.ifCond .eq 19, 3) := by decide +kernel
theorem dX3_loadMemory_39 : decode cX3_loadMemory 39 = .ok (.iinc 2 1, 3) := by decide +kernel
theorem dX3_loadMemory_42 : decode cX3_loadMemory 42 = .ok (.goto (-39), 3) := by decide +kernel
theorem dX3_loadMemory_45 : decode cX3_loadMemory 45 = .ok (.aload_n 0, 1) := by decide +kernel
theorem dX3_loadMemory_46 : decode cX3_loadMemory 46 = .ok (.getfield 40, 3) := by decide +kernel
theorem dX3_loadMemory_49 : decode cX3_loadMemory 49 = .ok (.ifCond .eq 31, 3) := by decide +kernel
theorem dX3_loadMemory_80 : decode cX3_loadMemory 80 = .ok (.return_, 1) := by decide +kernel
theorem dX4_isWithin_0 : decode cX4_isWithin 0 = .ok (.iload_n 1, 1) := by decide +kernel
theorem dX4_isWithin_1 : decode cX4_isWithin 1 = .ok (.ifCond .lt 25, 3) := by decide +kernel
theorem dX4_isWithin_4 : decode cX4_isWithin 4 = .ok (.iload_n 2, 1) := by decide +kernel
theorem dX4_isWithin_5 : decode cX4_isWithin 5 = .ok (.ifCond .lt 21, 3) := by decide +kernel
theorem dX4_isWithin_8 : decode cX4_isWithin 8 = .ok (.iload_n 2, 1) := by decide +kernel
theorem dX4_isWithin_9 : decode cX4_isWithin 9 = .ok (.aload_n 0, 1) := by decide +kernel
theorem dX4_isWithin_10 : decode cX4_isWithin 10 = .ok (.arraylength, 1) := by decide +kernel
theorem dX4_isWithin_11 : decode cX4_isWithin 11 = .ok (.if_icmp .gt 15, 3) := by decide +kernel
theorem dX4_isWithin_14 : decode cX4_isWithin 14 = .ok (.iload_n 1, 1) := by decide +kernel
theorem dX4_isWithin_15 : decode cX4_isWithin 15 = .ok (.aload_n 0, 1) := by decide +kernel
theorem dX4_isWithin_16 : decode cX4_isWithin 16 = .ok (.arraylength, 1) := by decide +kernel
theorem dX4_isWithin_17 : decode cX4_isWithin 17 = .ok (.iload_n 2, 1) := by decide +kernel
theorem dX4_isWithin_18 : decode cX4_isWithin 18 = .ok (.isub, 1) := by decide +kernel
theorem dX4_isWithin_19 : decode cX4_isWithin 19 = .ok (.if_icmp .gt 7, 3) := by decide +kernel
theorem dX4_isWithin_22 : decode cX4_isWithin 22 = .ok (.iconst 1, 1) := by decide +kernel
theorem dX4_isWithin_23 : decode cX4_isWithin 23 = .ok (.goto 4, 3) := by decide +kernel
theorem dX4_isWithin_27 : decode cX4_isWithin 27 = .ok (.ireturn, 1) := by decide +kernel
theorem dX4_number_0 : decode cX4_number 0 = .ok (.aload_n 0, 1) := by decide +kernel
theorem dX4_number_1 : decode cX4_number 1 = .ok (.iload_n 1, 1) := by decide +kernel
theorem dX4_number_2 : decode cX4_number 2 = .ok (.iload_n 2, 1) := by decide +kernel
theorem dX4_number_3 : decode cX4_number 3 = .ok (.invokestatic 7, 3) := by decide +kernel
theorem dX4_number_6 : decode cX4_number 6 = .ok (.ifCond .ne 5, 3) := by decide +kernel
theorem dX4_number_11 : decode cX4_number 11 = .ok (.iconst 0, 1) := by decide +kernel
theorem dX4_number_12 : decode cX4_number 12 = .ok (.istore_n 3, 1) := by decide +kernel
theorem dX4_number_13 : decode cX4_number 13 = .ok (.iload_n 1, 1) := by decide +kernel
theorem dX4_number_14 : decode cX4_number 14 = .ok (.istore 4, 2) := by decide +kernel
theorem dX4_number_16 : decode cX4_number 16 = .ok (.iload 4, 2) := by decide +kernel
theorem dX4_number_18 : decode cX4_number 18 = .ok (.iload_n 1, 1) := by decide +kernel
theorem dX4_number_19 : decode cX4_number 19 = .ok (.iload_n 2, 1) := by decide +kernel
theorem dX4_number_20 : decode cX4_number 20 = .ok (.iadd, 1) := by decide +kernel
theorem dX4_number_21 : decode cX4_number 21 = .ok (.if_icmp .ge 23, 3) := by decide +kernel
theorem dX4_number_24 : decode cX4_number 24 = .ok (.iload_n 3, 1) := by decide +kernel
theorem dX4_number_25 : decode cX4_number 25 = .ok (.bipush 8, 2) := by decide +kernel
theorem dX4_number_27 : decode cX4_number 27 = .ok (.ishl, 1) := by decide +kernel
theorem dX4_number_28 : decode cX4_number 28 = .ok (.aload_n 0, 1) := by decide +kernel
theorem dX4_number_29 : decode cX4_number 29 = .ok (.iload 4, 2) := by decide +kernel
theorem dX4_number_31 : decode cX4_number 31 = .ok (.baload, 1) := by decide +kernel
theorem dX4_number_32 : decode cX4_number 32 = .ok (.sipush 255, 3) := by decide +kernel
theorem dX4_number_35 : decode cX4_number 35 = .ok (.iand, 1) := by decide +kernel
theorem dX4_number_36 : decode cX4_number 36 = .ok (.ior, 1) := by decide +kernel
theorem dX4_number_37 : decode cX4_number 37 = .ok (.istore_n 3, 1) := by decide +kernel
theorem dX4_number_38 : decode cX4_number 38 = .ok (.iinc 4 1, 3) := by decide +kernel
theorem dX4_number_41 : decode cX4_number 41 = .ok (.goto (-25), 3) := by decide +kernel
theorem dX4_number_44 : decode cX4_number 44 = .ok (.iload_n 3, 1) := by decide +kernel
theorem dX4_number_45 : decode cX4_number 45 = .ok (.ireturn, 1) := by decide +kernel
theorem dX4_setNumber_0 : decode cX4_setNumber 0 = .ok (.aload_n 0, 1) := by decide +kernel
theorem dX4_setNumber_1 : decode cX4_setNumber 1 = .ok (.iload_n 1, 1) := by decide +kernel
theorem dX4_setNumber_2 : decode cX4_setNumber 2 = .ok (.iload_n 2, 1) := by decide +kernel
theorem dX4_setNumber_3 : decode cX4_setNumber 3 = .ok (.invokestatic 7, 3) := by decide +kernel
theorem dX4_setNumber_6 : decode cX4_setNumber 6 = .ok (.ifCond .ne 4, 3) := by decide +kernel
theorem dX4_setNumber_10 : decode cX4_setNumber 10 = .ok (.iload_n 3, 1) := by decide +kernel
theorem dX4_setNumber_11 : decode cX4_setNumber 11 = .ok (.istore 4, 2) := by decide +kernel
theorem dX4_setNumber_13 : decode cX4_setNumber 13 = .ok (.iload_n 1, 1) := by decide +kernel
theorem dX4_setNumber_14 : decode cX4_setNumber 14 = .ok (.iload_n 2, 1) := by decide +kernel
theorem dX4_setNumber_15 : decode cX4_setNumber 15 = .ok (.iadd, 1) := by decide +kernel
theorem dX4_setNumber_16 : decode cX4_setNumber 16 = .ok (.iconst 1, 1) := by decide +kernel
theorem dX4_setNumber_17 : decode cX4_setNumber 17 = .ok (.isub, 1) := by decide +kernel
theorem dX4_setNumber_18 : decode cX4_setNumber 18 = .ok (.istore 5, 2) := by decide +kernel
theorem dX4_setNumber_20 : decode cX4_setNumber 20 = .ok (.iload 5, 2) := by decide +kernel
theorem dX4_setNumber_22 : decode cX4_setNumber 22 = .ok (.iload_n 1, 1) := by decide +kernel
theorem dX4_setNumber_23 : decode cX4_setNumber 23 = .ok (.if_icmp .lt 23, 3) := by decide +kernel
theorem dX4_setNumber_26 : decode cX4_setNumber 26 = .ok (.aload_n 0, 1) := by decide +kernel
theorem dX4_setNumber_27 : decode cX4_setNumber 27 = .ok (.iload 5, 2) := by decide +kernel
theorem dX4_setNumber_29 : decode cX4_setNumber 29 = .ok (.iload 4, 2) := by decide +kernel
theorem dX4_setNumber_31 : decode cX4_setNumber 31 = .ok (.i2b, 1) := by decide +kernel
theorem dX4_setNumber_32 : decode cX4_setNumber 32 = .ok (.bastore, 1) := by decide +kernel
theorem dX4_setNumber_33 : decode cX4_setNumber 33 = .ok (.iload 4, 2) := by decide +kernel
theorem dX4_setNumber_35 : decode cX4_setNumber 35 = .ok (.bipush 8, 2) := by decide +kernel
theorem dX4_setNumber_37 : decode cX4_setNumber 37 = .ok (.iushr, 1) := by decide +kernel
theorem dX4_setNumber_38 : decode cX4_setNumber 38 = .ok (.istore 4, 2) := by decide +kernel
theorem dX4_setNumber_40 : decode cX4_setNumber 40 = .ok (.iinc 5 (-1), 3) := by decide +kernel
theorem dX4_setNumber_43 : decode cX4_setNumber 43 = .ok (.goto (-23), 3) := by decide +kernel
theorem dX4_setNumber_46 : decode cX4_setNumber 46 = .ok (.return_, 1) := by decide +kernel
theorem dX4_sum_0 : decode cX4_sum 0 = .ok (.aload_n 0, 1) := by decide +kernel
theorem dX4_sum_1 : decode cX4_sum 1 = .ok (.iload_n 1, 1) := by decide +kernel
theorem dX4_sum_2 : decode cX4_sum 2 = .ok (.iload_n 2, 1) := by decide +kernel
theorem dX4_sum_3 : decode cX4_sum 3 = .ok (.invokestatic 7, 3) := by decide +kernel
theorem dX4_sum_6 : decode cX4_sum 6 = .ok (.ifCond .ne 5, 3) := by decide +kernel
theorem dX4_sum_11 : decode cX4_sum 11 = .ok (.iconst 0, 1) := by decide +kernel
theorem dX4_sum_12 : decode cX4_sum 12 = .ok (.istore_n 3, 1) := by decide +kernel
theorem dX4_sum_13 : decode cX4_sum 13 = .ok (.iload_n 1, 1) := by decide +kernel
theorem dX4_sum_14 : decode cX4_sum 14 = .ok (.istore 4, 2) := by decide +kernel
theorem dX4_sum_16 : decode cX4_sum 16 = .ok (.iload 4, 2) := by decide +kernel
theorem dX4_sum_18 : decode cX4_sum 18 = .ok (.iload_n 1, 1) := by decide +kernel
theorem dX4_sum_19 : decode cX4_sum 19 = .ok (.iload_n 2, 1) := by decide +kernel
theorem dX4_sum_20 : decode cX4_sum 20 = .ok (.iadd, 1) := by decide +kernel
theorem dX4_sum_21 : decode cX4_sum 21 = .ok (.if_icmp .ge 27, 3) := by decide +kernel
theorem dX4_sum_24 : decode cX4_sum 24 = .ok (.iload_n 3, 1) := by decide +kernel
theorem dX4_sum_25 : decode cX4_sum 25 = .ok (.aload_n 0, 1) := by decide +kernel
theorem dX4_sum_26 : decode cX4_sum 26 = .ok (.iload 4, 2) := by decide +kernel
theorem dX4_sum_28 : decode cX4_sum 28 = .ok (.baload, 1) := by decide +kernel
theorem dX4_sum_29 : decode cX4_sum 29 = .ok (.sipush 255, 3) := by decide +kernel
theorem dX4_sum_32 : decode cX4_sum 32 = .ok (.iand, 1) := by decide +kernel
theorem dX4_sum_33 : decode cX4_sum 33 = .ok (.ixor, 1) := by decide +kernel
theorem dX4_sum_34 : decode cX4_sum 34 = .ok (.iconst 5, 1) := by decide +kernel
theorem dX4_sum_35 : decode cX4_sum 35 = .ok (.invokestatic 13, 3) := by decide +kernel
theorem dX4_sum_38 : decode cX4_sum 38 = .ok (.ldc 19, 2) := by decide +kernel
theorem dX4_sum_40 : decode cX4_sum 40 = .ok (.imul, 1) := by decide +kernel
theorem dX4_sum_41 : decode cX4_sum 41 = .ok (.istore_n 3, 1) := by decide +kernel
theorem dX4_sum_42 : decode cX4_sum 42 = .ok (.iinc 4 1, 3) := by decide +kernel
theorem dX4_sum_45 : decode cX4_sum 45 = .ok (.goto (-29), 3) := by decide +kernel
theorem dX4_sum_48 : decode cX4_sum 48 = .ok (.iload_n 3, 1) := by decide +kernel
theorem dX4_sum_49 : decode cX4_sum 49 = .ok (.ireturn, 1) := by decide +kernel
theorem dX4_setSum_0 : decode cX4_setSum 0 = .ok (.aload_n 0, 1) := by decide +kernel
theorem dX4_setSum_1 : decode cX4_setSum 1 = .ok (.iload_n 1, 1) := by decide +kernel
theorem dX4_setSum_2 : decode cX4_setSum 2 = .ok (.iload_n 2, 1) := by decide +kernel
theorem dX4_setSum_3 : decode cX4_setSum 3 = .ok (.iadd, 1) := by decide +kernel
theorem dX4_setSum_4 : decode cX4_setSum 4 = .ok (.iconst 4, 1) := by decide +kernel
theorem dX4_setSum_5 : decode cX4_setSum 5 = .ok (.aload_n 0, 1) := by decide +kernel
theorem dX4_setSum_6 : decode cX4_setSum 6 = .ok (.iload_n 1, 1) := by decide +kernel
theorem dX4_setSum_7 : decode cX4_setSum 7 = .ok (.iload_n 2, 1) := by decide +kernel
theorem dX4_setSum_8 : decode cX4_setSum 8 = .ok (.invokestatic 20, 3) := by decide +kernel
theorem dX4_setSum_11 : decode cX4_setSum 11 = .ok (.invokestatic 24, 3) := by decide +kernel
theorem dX4_setSum_14 : decode cX4_setSum 14 = .ok (.return_, 1) := by decide +kernel
theorem dX4_copy_0 : decode cX4_copy 0 = .ok (.aload_n 0, 1) := by decide +kernel
theorem dX4_copy_1 : decode cX4_copy 1 = .ok (.iload_n 1, 1) := by decide +kernel
theorem dX4_copy_2 : decode cX4_copy 2 = .ok (.iload 4, 2) := by decide +kernel
theorem dX4_copy_4 : decode cX4_copy 4 = .ok (.invokestatic 7, 3) := by decide +kernel
theorem dX4_copy_7 : decode cX4_copy 7 = .ok (.ifCond .eq 22, 3) := by decide +kernel
theorem dX4_copy_10 : decode cX4_copy 10 = .ok (.aload_n 2, 1) := by decide +kernel
theorem dX4_copy_11 : decode cX4_copy 11 = .ok (.iload_n 3, 1) := by decide +kernel
theorem dX4_copy_12 : decode cX4_copy 12 = .ok (.iload 4, 2) := by decide +kernel
theorem dX4_copy_14 : decode cX4_copy 14 = .ok (.invokestatic 7, 3) := by decide +kernel
theorem dX4_copy_17 : decode cX4_copy 17 = .ok (.ifCond .eq 12, 3) := by decide +kernel
theorem dX4_copy_20 : decode cX4_copy 20 = .ok (.aload_n 0, 1) := by decide +kernel
theorem dX4_copy_21 : decode cX4_copy 21 = .ok (.iload_n 1, 1) := by decide +kernel
theorem dX4_copy_22 : decode cX4_copy 22 = .ok (.aload_n 2, 1) := by decide +kernel
theorem dX4_copy_23 : decode cX4_copy 23 = .ok (.iload_n 3, 1) := by decide +kernel
theorem dX4_copy_24 : decode cX4_copy 24 = .ok (.iload 4, 2) := by decide +kernel
theorem dX4_copy_26 : decode cX4_copy 26 = .ok (.invokestatic 28, 3) := by decide +kernel
theorem dX4_copy_29 : decode cX4_copy 29 = .ok (.return_, 1) := by decide +kernel
theorem dX4_clear_0 : decode cX4_clear 0 = .ok (.aload_n 0, 1) := by decide +kernel
theorem dX4_clear_1 : decode cX4_clear 1 = .ok (.iload_n 1, 1) := by decide +kernel
theorem dX4_clear_2 : decode cX4_clear 2 = .ok (.iload_n 2, 1) := by decide +kernel
theorem dX4_clear_3 : decode cX4_clear 3 = .ok (.invokestatic 7, 3) := by decide +kernel
theorem dX4_clear_6 : decode cX4_clear 6 = .ok (.ifCond .ne 4, 3) := by decide +kernel
theorem dX4_clear_10 : decode cX4_clear 10 = .ok (.iload_n 1, 1) := by decide +kernel
theorem dX4_clear_11 : decode cX4_clear 11 = .ok (.istore_n 3, 1) := by decide +kernel
theorem dX4_clear_12 : decode cX4_clear 12 = .ok (.iload_n 3, 1) := by decide +kernel
theorem dX4_clear_13 : decode cX4_clear 13 = .ok (.iload_n 1, 1) := by decide +kernel
theorem dX4_clear_14 : decode cX4_clear 14 = .ok (.iload_n 2, 1) := by decide +kernel
theorem dX4_clear_15 : decode cX4_clear 15 = .ok (.iadd, 1) := by decide +kernel
theorem dX4_clear_16 : decode cX4_clear 16 = .ok (.if_icmp .ge 13, 3) := by decide +kernel
theorem dX4_clear_19 : decode cX4_clear 19 = .ok (.aload_n 0, 1) := by decide +kernel
theorem dX4_clear_20 : decode cX4_clear 20 = .ok (.iload_n 3, 1) := by decide +kernel
theorem dX4_clear_21 : decode cX4_clear 21 = .ok (.iconst 0, 1) := by decide +kernel
theorem dX4_clear_22 : decode cX4_clear 22 = .ok (.bastore, 1) := by decide +kernel
theorem dX4_clear_23 : decode cX4_clear 23 = .ok (.iinc 3 1, 3) := by decide +kernel
theorem dX4_clear_26 : decode cX4_clear 26 = .ok (.goto (-14), 3) := by decide +kernel
theorem dX4_clear_29 : decode cX4_clear 29 = .ok (.return_, 1) := by decide +kernel
theorem dX5_init_0 : decode cX5_init 0 = .ok (.aload_n 0, 1) := by decide +kernel
theorem dX5_init_1 : decode cX5_init 1 = .ok (.invokespecial 3, 3) := by decide +kernel
theorem dX5_init_4 : decode cX5_init 4 = .ok (.aload_n 0, 1) := by decide +kernel
theorem dX5_init_5 : decode cX5_init 5 = .ok (.aload_n 1, 1) := by decide +kernel
theorem dX5_init_6 : decode cX5_init 6 = .ok (.putfield 9, 3) := by decide +kernel
theorem dX5_init_9 : decode cX5_init 9 = .ok (.aload_n 0, 1) := by decide +kernel
theorem dX5_init_10 : decode cX5_init 10 = .ok (.aload_n 2, 1) := by decide +kernel
theorem dX5_init_11 : decode cX5_init 11 = .ok (.putfield 15, 3) := by decide +kernel
theorem dX5_init_14 : decode cX5_init 14 = .ok (.aload_n 0, 1) := by decide +kernel
theorem dX5_init_15 : decode cX5_init 15 = .ok (.aload_n 3, 1) := by decide +kernel
theorem dX5_init_16 : decode cX5_init 16 = .ok (.putfield 19, 3) := by decide +kernel
theorem dX5_init_19 : decode cX5_init 19 = .ok (.aload_n 0, 1) := by decide +kernel
theorem dX5_init_20 : decode cX5_init 20 = .ok (.aload 4, 2) := by decide +kernel
theorem dX5_init_22 : decode cX5_init 22 = .ok (.putfield 23, 3) := by decide +kernel
theorem dX5_init_25 : decode cX5_init 25 = .ok (.return_, 1) := by decide +kernel
theorem dX5_takeCheckpoint_0 : decode cX5_takeCheckpoint 0 = .ok (.aload_n 0, 1) := by decide +kernel
theorem dX5_takeCheckpoint_1 : decode cX5_takeCheckpoint 1 = .ok (.getfield 15, 3) := by decide +kernel
theorem dX5_takeCheckpoint_4 : decode cX5_takeCheckpoint 4 = .ok (.invokevirtual 27, 3) := by decide +kernel
theorem dX5_takeCheckpoint_7 : decode cX5_takeCheckpoint 7 = .ok (.aload_n 0, 1) := by decide +kernel
theorem dX5_takeCheckpoint_8 : decode cX5_takeCheckpoint 8 = .ok (.getfield 23, 3) := by decide +kernel
theorem dX5_takeCheckpoint_11 : decode cX5_takeCheckpoint 11 = .ok (.invokevirtual 32, 3) := by decide +kernel
theorem dX5_takeCheckpoint_14 : decode cX5_takeCheckpoint 14 = .ok (.aload_n 0, 1) := by decide +kernel
theorem dX5_takeCheckpoint_15 : decode cX5_takeCheckpoint 15 = .ok (.getfield 19, 3) := by decide +kernel
theorem dX5_takeCheckpoint_18 : decode cX5_takeCheckpoint 18 = .ok (.invokevirtual 35, 3) := by decide +kernel
theorem dX5_takeCheckpoint_21 : decode cX5_takeCheckpoint 21 = .ok (.aload_n 0, 1) := by decide +kernel
theorem dX5_takeCheckpoint_22 : decode cX5_takeCheckpoint 22 = .ok (.getfield 23, 3) := by decide +kernel
theorem dX5_takeCheckpoint_25 : decode cX5_takeCheckpoint 25 = .ok (.invokevirtual 40, 3) := by decide +kernel
theorem dX5_takeCheckpoint_28 : decode cX5_takeCheckpoint 28 = .ok (.istore_n 1, 1) := by decide +kernel
theorem dX5_takeCheckpoint_29 : decode cX5_takeCheckpoint 29 = .ok (.iload_n 1, 1) := by decide +kernel
theorem dX5_takeCheckpoint_30 : decode cX5_takeCheckpoint 30 = .ok (.ifCond .lt 16, 3) := by decide +kernel
theorem dX5_takeCheckpoint_46 : decode cX5_takeCheckpoint 46 = .ok (.return_, 1) := by decide +kernel
theorem dX5_goThrough_0 : decode cX5_goThrough 0 = .ok (.iconst 0, 1) := by decide +kernel
theorem dX5_goThrough_1 : decode cX5_goThrough 1 = .ok (.istore_n 1, 1) := by decide +kernel
theorem dX5_goThrough_2 : decode cX5_goThrough 2 = .ok (.iload_n 1, 1) := by decide +kernel
theorem dX5_goThrough_3 : decode cX5_goThrough 3 = .ok (.sipush 4096, 3) := by decide +kernel
theorem dX5_goThrough_6 : decode cX5_goThrough 6 = .ok (.if_icmp .ge 20, 3) := by decide +kernel
theorem dX5_goThrough_9 : decode cX5_goThrough 9 = .ok (.aload_n 0, 1) := by decide +kernel
theorem dX5_goThrough_10 : decode cX5_goThrough 10 = .ok (.invokevirtual 96, 3) := by decide +kernel
theorem dX5_goThrough_13 : decode cX5_goThrough 13 = .ok (.ifCond .eq 13, 3) := by decide +kernel
theorem dX5_goThrough_26 : decode cX5_goThrough 26 = .ok (.iload_n 1, 1) := by decide +kernel
theorem dX5_goThrough_27 : decode cX5_goThrough 27 = .ok (.ireturn, 1) := by decide +kernel
theorem dX5_findNext_0 : decode cX5_findNext 0 = .ok (.aload_n 0, 1) := by decide +kernel
theorem dX5_findNext_1 : decode cX5_findNext 1 = .ok (.aload_n 0, 1) := by decide +kernel
theorem dX5_findNext_2 : decode cX5_findNext 2 = .ok (.getfield 15, 3) := by decide +kernel
theorem dX5_findNext_5 : decode cX5_findNext 5 = .ok (.getfield 89, 3) := by decide +kernel
theorem dX5_findNext_8 : decode cX5_findNext 8 = .ok (.aload_n 0, 1) := by decide +kernel
theorem dX5_findNext_9 : decode cX5_findNext 9 = .ok (.getfield 15, 3) := by decide +kernel
theorem dX5_findNext_12 : decode cX5_findNext 12 = .ok (.getfield 93, 3) := by decide +kernel
theorem dX5_findNext_15 : decode cX5_findNext 15 = .ok (.invokevirtual 103, 3) := by decide +kernel
theorem dX5_findNext_18 : decode cX5_findNext 18 = .ok (.ifCond .eq 5, 3) := by decide +kernel
theorem dX5_findNext_23 : decode cX5_findNext 23 = .ok (.bipush 8, 2) := by decide +kernel
theorem dX5_findNext_25 : decode cX5_findNext 25 = .ok (.istore_n 1, 1) := by decide +kernel
theorem dX5_findNext_26 : decode cX5_findNext 26 = .ok (.iload_n 1, 1) := by decide +kernel
theorem dX5_findNext_27 : decode cX5_findNext 27 = .ok (.bipush 64, 2) := by decide +kernel
theorem dX5_findNext_29 : decode cX5_findNext 29 = .ok (.if_icmp .ge 78, 3) := by decide +kernel
theorem dX5_findNext_32 : decode cX5_findNext 32 = .ok (.aload_n 0, 1) := by decide +kernel
theorem dX5_findNext_33 : decode cX5_findNext 33 = .ok (.getfield 15, 3) := by decide +kernel
theorem dX5_findNext_36 : decode cX5_findNext 36 = .ok (.iload_n 1, 1) := by decide +kernel
theorem dX5_findNext_37 : decode cX5_findNext 37 = .ok (.invokevirtual 76, 3) := by decide +kernel
theorem dX5_findNext_40 : decode cX5_findNext 40 = .ok (.ifCond .ne 61, 3) := by decide +kernel
theorem dX5_findNext_43 : decode cX5_findNext 43 = .ok (.aload_n 0, 1) := by decide +kernel
theorem dX5_findNext_44 : decode cX5_findNext 44 = .ok (.iload_n 1, 1) := by decide +kernel
theorem dX5_findNext_45 : decode cX5_findNext 45 = .ok (.invokevirtual 107, 3) := by decide +kernel
theorem dX5_findNext_48 : decode cX5_findNext 48 = .ok (.ifCond .eq 53, 3) := by decide +kernel
theorem dX5_findNext_101 : decode cX5_findNext 101 = .ok (.iinc 1 1, 3) := by decide +kernel
theorem dX5_findNext_104 : decode cX5_findNext 104 = .ok (.goto (-78), 3) := by decide +kernel
theorem dX5_findNext_107 : decode cX5_findNext 107 = .ok (.iconst 0, 1) := by decide +kernel
theorem dX5_findNext_108 : decode cX5_findNext 108 = .ok (.ireturn, 1) := by decide +kernel
theorem dX5_isNext_0 : decode cX5_isNext 0 = .ok (.iload_n 1, 1) := by decide +kernel
theorem dX5_isNext_1 : decode cX5_isNext 1 = .ok (.sipush 1024, 3) := by decide +kernel
theorem dX5_isNext_4 : decode cX5_isNext 4 = .ok (.imul, 1) := by decide +kernel
theorem dX5_isNext_5 : decode cX5_isNext 5 = .ok (.iload_n 2, 1) := by decide +kernel
theorem dX5_isNext_6 : decode cX5_isNext 6 = .ok (.iadd, 1) := by decide +kernel
theorem dX5_isNext_7 : decode cX5_isNext 7 = .ok (.istore_n 3, 1) := by decide +kernel
theorem dX5_isNext_8 : decode cX5_isNext 8 = .ok (.aload_n 0, 1) := by decide +kernel
theorem dX5_isNext_9 : decode cX5_isNext 9 = .ok (.iload_n 1, 1) := by decide +kernel
theorem dX5_isNext_10 : decode cX5_isNext 10 = .ok (.iload_n 2, 1) := by decide +kernel
theorem dX5_isNext_11 : decode cX5_isNext 11 = .ok (.invokevirtual 73, 3) := by decide +kernel
theorem dX5_isNext_14 : decode cX5_isNext 14 = .ok (.ifCond .le 31, 3) := by decide +kernel
theorem dX5_isNext_45 : decode cX5_isNext 45 = .ok (.iconst 0, 1) := by decide +kernel
theorem dX5_isNext_46 : decode cX5_isNext 46 = .ok (.ireturn, 1) := by decide +kernel
theorem dX5_hasNextHead_0 : decode cX5_hasNextHead 0 = .ok (.iload_n 1, 1) := by decide +kernel
theorem dX5_hasNextHead_1 : decode cX5_hasNextHead 1 = .ok (.sipush 1024, 3) := by decide +kernel
theorem dX5_hasNextHead_4 : decode cX5_hasNextHead 4 = .ok (.imul, 1) := by decide +kernel
theorem dX5_hasNextHead_5 : decode cX5_hasNextHead 5 = .ok (.istore_n 2, 1) := by decide +kernel
theorem dX5_hasNextHead_6 : decode cX5_hasNextHead 6 = .ok (.aload_n 0, 1) := by decide +kernel
theorem dX5_hasNextHead_7 : decode cX5_hasNextHead 7 = .ok (.getfield 9, 3) := by decide +kernel
theorem dX5_hasNextHead_10 : decode cX5_hasNextHead 10 = .ok (.getfield 116, 3) := by decide +kernel
theorem dX5_hasNextHead_13 : decode cX5_hasNextHead 13 = .ok (.iload_n 2, 1) := by decide +kernel
theorem dX5_hasNextHead_14 : decode cX5_hasNextHead 14 = .ok (.iconst 1, 1) := by decide +kernel
theorem dX5_hasNextHead_15 : decode cX5_hasNextHead 15 = .ok (.invokestatic 122, 3) := by decide +kernel
theorem dX5_hasNextHead_18 : decode cX5_hasNextHead 18 = .ok (.bipush 76, 2) := by decide +kernel
theorem dX5_hasNextHead_20 : decode cX5_hasNextHead 20 = .ok (.if_icmp .ne 65, 3) := by decide +kernel
theorem dX5_hasNextHead_85 : decode cX5_hasNextHead 85 = .ok (.iconst 0, 1) := by decide +kernel
theorem dX5_hasNextHead_86 : decode cX5_hasNextHead 86 = .ok (.ireturn, 1) := by decide +kernel
theorem dX5_fillMemory_0 : decode cX5_fillMemory 0 = .ok (.aload_n 0, 1) := by decide +kernel
theorem dX5_fillMemory_1 : decode cX5_fillMemory 1 = .ok (.getfield 15, 3) := by decide +kernel
theorem dX5_fillMemory_4 : decode cX5_fillMemory 4 = .ok (.aload_n 0, 1) := by decide +kernel
theorem dX5_fillMemory_5 : decode cX5_fillMemory 5 = .ok (.getfield 9, 3) := by decide +kernel
theorem dX5_fillMemory_8 : decode cX5_fillMemory 8 = .ok (.invokevirtual 148, 3) := by decide +kernel
theorem dX5_fillMemory_11 : decode cX5_fillMemory 11 = .ok (.bipush 8, 2) := by decide +kernel
theorem dX5_fillMemory_13 : decode cX5_fillMemory 13 = .ok (.istore_n 1, 1) := by decide +kernel
theorem dX5_fillMemory_14 : decode cX5_fillMemory 14 = .ok (.iload_n 1, 1) := by decide +kernel
theorem dX5_fillMemory_15 : decode cX5_fillMemory 15 = .ok (.bipush 64, 2) := by decide +kernel
theorem dX5_fillMemory_17 : decode cX5_fillMemory 17 = .ok (.if_icmp .ge 33, 3) := by decide +kernel
theorem dX5_fillMemory_20 : decode cX5_fillMemory 20 = .ok (.aload_n 0, 1) := by decide +kernel
theorem dX5_fillMemory_21 : decode cX5_fillMemory 21 = .ok (.getfield 15, 3) := by decide +kernel
theorem dX5_fillMemory_24 : decode cX5_fillMemory 24 = .ok (.iload_n 1, 1) := by decide +kernel
theorem dX5_fillMemory_25 : decode cX5_fillMemory 25 = .ok (.invokevirtual 152, 3) := by decide +kernel
theorem dX5_fillMemory_28 : decode cX5_fillMemory 28 = .ok (.aload_n 0, 1) := by decide +kernel
theorem dX5_fillMemory_29 : decode cX5_fillMemory 29 = .ok (.getfield 15, 3) := by decide +kernel
theorem dX5_fillMemory_32 : decode cX5_fillMemory 32 = .ok (.iload_n 1, 1) := by decide +kernel
theorem dX5_fillMemory_33 : decode cX5_fillMemory 33 = .ok (.invokevirtual 76, 3) := by decide +kernel
theorem dX5_fillMemory_36 : decode cX5_fillMemory 36 = .ok (.ifCond .eq 8, 3) := by decide +kernel
theorem dX5_fillMemory_44 : decode cX5_fillMemory 44 = .ok (.iinc 1 1, 3) := by decide +kernel
theorem dX5_fillMemory_47 : decode cX5_fillMemory 47 = .ok (.goto (-33), 3) := by decide +kernel
theorem dX5_fillMemory_50 : decode cX5_fillMemory 50 = .ok (.return_, 1) := by decide +kernel
theorem dX5_rightLength_0 : decode cX5_rightLength 0 = .ok (.iload_n 1, 1) := by decide +kernel
theorem dX5_rightLength_1 : decode cX5_rightLength 1 = .ok (.invokestatic 162, 3) := by decide +kernel
theorem dX5_rightLength_4 : decode cX5_rightLength 4 = .ok (.ifCond .eq 16, 3) := by decide +kernel
theorem dX5_rightLength_20 : decode cX5_rightLength 20 = .ok (.iconst 0, 1) := by decide +kernel
theorem dX5_rightLength_21 : decode cX5_rightLength 21 = .ok (.ireturn, 1) := by decide +kernel
theorem dX6_init_0 : decode cX6_init 0 = .ok (.aload_n 0, 1) := by decide +kernel
theorem dX6_init_1 : decode cX6_init 1 = .ok (.invokespecial 3, 3) := by decide +kernel
theorem dX6_init_4 : decode cX6_init 4 = .ok (.aload_n 0, 1) := by decide +kernel
theorem dX6_init_5 : decode cX6_init 5 = .ok (.sipush 1600, 3) := by decide +kernel
theorem dX6_init_8 : decode cX6_init 8 = .ok (.newarray .byte, 2) := by decide +kernel
theorem dX6_init_10 : decode cX6_init 10 = .ok (.putfield 9, 3) := by decide +kernel
theorem dX6_init_13 : decode cX6_init 13 = .ok (.aload_n 0, 1) := by decide +kernel
theorem dX6_init_14 : decode cX6_init 14 = .ok (.iconst 0, 1) := by decide +kernel
theorem dX6_init_15 : decode cX6_init 15 = .ok (.putfield 15, 3) := by decide +kernel
theorem dX6_init_18 : decode cX6_init 18 = .ok (.aload_n 0, 1) := by decide +kernel
theorem dX6_init_19 : decode cX6_init 19 = .ok (.iconst 0, 1) := by decide +kernel
theorem dX6_init_20 : decode cX6_init 20 = .ok (.putfield 19, 3) := by decide +kernel
theorem dX6_init_23 : decode cX6_init 23 = .ok (.aload_n 0, 1) := by decide +kernel
theorem dX6_init_24 : decode cX6_init 24 = .ok (.aload_n 1, 1) := by decide +kernel
theorem dX6_init_25 : decode cX6_init 25 = .ok (.putfield 22, 3) := by decide +kernel
theorem dX6_init_28 : decode cX6_init 28 = .ok (.aload_n 0, 1) := by decide +kernel
theorem dX6_init_29 : decode cX6_init 29 = .ok (.aload_n 2, 1) := by decide +kernel
theorem dX6_init_30 : decode cX6_init 30 = .ok (.putfield 26, 3) := by decide +kernel
theorem dX6_init_33 : decode cX6_init 33 = .ok (.aload_n 0, 1) := by decide +kernel
theorem dX6_init_34 : decode cX6_init 34 = .ok (.aload_n 3, 1) := by decide +kernel
theorem dX6_init_35 : decode cX6_init 35 = .ok (.putfield 30, 3) := by decide +kernel
theorem dX6_init_38 : decode cX6_init 38 = .ok (.return_, 1) := by decide +kernel
theorem dX6_setAsAtFirst_0 : decode cX6_setAsAtFirst 0 = .ok (.aload_n 0, 1) := by decide +kernel
theorem dX6_setAsAtFirst_1 : decode cX6_setAsAtFirst 1 = .ok (.iconst 0, 1) := by decide +kernel
theorem dX6_setAsAtFirst_2 : decode cX6_setAsAtFirst 2 = .ok (.putfield 15, 3) := by decide +kernel
theorem dX6_setAsAtFirst_5 : decode cX6_setAsAtFirst 5 = .ok (.aload_n 0, 1) := by decide +kernel
theorem dX6_setAsAtFirst_6 : decode cX6_setAsAtFirst 6 = .ok (.iconst 0, 1) := by decide +kernel
theorem dX6_setAsAtFirst_7 : decode cX6_setAsAtFirst 7 = .ok (.putfield 19, 3) := by decide +kernel
theorem dX6_setAsAtFirst_10 : decode cX6_setAsAtFirst 10 = .ok (.return_, 1) := by decide +kernel
theorem dX6_write_0 : decode cX6_write 0 = .ok (.aload_n 0, 1) := by decide +kernel
theorem dX6_write_1 : decode cX6_write 1 = .ok (.invokevirtual 34, 3) := by decide +kernel
theorem dX6_write_4 : decode cX6_write 4 = .ok (.istore_n 1, 1) := by decide +kernel
theorem dX6_write_5 : decode cX6_write 5 = .ok (.iconst 0, 1) := by decide +kernel
theorem dX6_write_6 : decode cX6_write 6 = .ok (.istore_n 2, 1) := by decide +kernel
theorem dX6_write_7 : decode cX6_write 7 = .ok (.iload_n 2, 1) := by decide +kernel
theorem dX6_write_8 : decode cX6_write 8 = .ok (.bipush 64, 2) := by decide +kernel
theorem dX6_write_10 : decode cX6_write 10 = .ok (.imul, 1) := by decide +kernel
theorem dX6_write_11 : decode cX6_write 11 = .ok (.iload_n 1, 1) := by decide +kernel
theorem dX6_write_12 : decode cX6_write 12 = .ok (.if_icmp .ge 39, 3) := by decide +kernel
theorem dX6_write_15 : decode cX6_write 15 = .ok (.aload_n 0, 1) := by decide +kernel
theorem dX6_write_16 : decode cX6_write 16 = .ok (.getfield 22, 3) := by decide +kernel
theorem dX6_write_19 : decode cX6_write 19 = .ok (.aload_n 0, 1) := by decide +kernel
theorem dX6_write_20 : decode cX6_write 20 = .ok (.getfield 19, 3) := by decide +kernel
theorem dX6_write_23 : decode cX6_write 23 = .ok (.bipush 64, 2) := by decide +kernel
theorem dX6_write_25 : decode cX6_write 25 = .ok (.imul, 1) := by decide +kernel
theorem dX6_write_26 : decode cX6_write 26 = .ok (.iload_n 2, 1) := by decide +kernel
theorem dX6_write_27 : decode cX6_write 27 = .ok (.iadd, 1) := by decide +kernel
theorem dX6_write_28 : decode cX6_write 28 = .ok (.aload_n 0, 1) := by decide +kernel
theorem dX6_write_29 : decode cX6_write 29 = .ok (.getfield 9, 3) := by decide +kernel
theorem dX6_write_32 : decode cX6_write 32 = .ok (.iload_n 2, 1) := by decide +kernel
theorem dX6_write_33 : decode cX6_write 33 = .ok (.bipush 64, 2) := by decide +kernel
theorem dX6_write_35 : decode cX6_write 35 = .ok (.imul, 1) := by decide +kernel
theorem dX6_write_36 : decode cX6_write 36 = .ok (.iconst 0, 1) := by decide +kernel
theorem dX6_write_37 : decode cX6_write 37 = .ok (.invokevirtual 38, 3) := by decide +kernel
theorem dX6_write_40 : decode cX6_write 40 = .ok (.ifCond .ne 5, 3) := by decide +kernel
theorem dX6_write_45 : decode cX6_write 45 = .ok (.iinc 2 1, 3) := by decide +kernel
theorem dX6_write_48 : decode cX6_write 48 = .ok (.goto (-41), 3) := by decide +kernel
theorem dX6_write_51 : decode cX6_write 51 = .ok (.aload_n 0, 1) := by decide +kernel
theorem dX6_write_52 : decode cX6_write 52 = .ok (.dup, 1) := by decide +kernel
theorem dX6_write_53 : decode cX6_write 53 = .ok (.getfield 15, 3) := by decide +kernel
theorem dX6_write_56 : decode cX6_write 56 = .ok (.iconst 1, 1) := by decide +kernel
theorem dX6_write_57 : decode cX6_write 57 = .ok (.iadd, 1) := by decide +kernel
theorem dX6_write_58 : decode cX6_write 58 = .ok (.putfield 15, 3) := by decide +kernel
theorem dX6_write_61 : decode cX6_write 61 = .ok (.aload_n 0, 1) := by decide +kernel
theorem dX6_write_62 : decode cX6_write 62 = .ok (.iconst 1, 1) := by decide +kernel
theorem dX6_write_63 : decode cX6_write 63 = .ok (.aload_n 0, 1) := by decide +kernel
theorem dX6_write_64 : decode cX6_write 64 = .ok (.getfield 19, 3) := by decide +kernel
theorem dX6_write_67 : decode cX6_write 67 = .ok (.isub, 1) := by decide +kernel
theorem dX6_write_68 : decode cX6_write 68 = .ok (.putfield 19, 3) := by decide +kernel
theorem dX6_write_71 : decode cX6_write 71 = .ok (.iconst 1, 1) := by decide +kernel
theorem dX6_write_72 : decode cX6_write 72 = .ok (.ireturn, 1) := by decide +kernel
theorem dX6_fillRow_0 : decode cX6_fillRow 0 = .ok (.aload_n 0, 1) := by decide +kernel
theorem dX6_fillRow_1 : decode cX6_fillRow 1 = .ok (.getfield 9, 3) := by decide +kernel
theorem dX6_fillRow_4 : decode cX6_fillRow 4 = .ok (.iconst 0, 1) := by decide +kernel
theorem dX6_fillRow_5 : decode cX6_fillRow 5 = .ok (.invokestatic 44, 3) := by decide +kernel
theorem dX6_fillRow_8 : decode cX6_fillRow 8 = .ok (.aload_n 0, 1) := by decide +kernel
theorem dX6_fillRow_9 : decode cX6_fillRow 9 = .ok (.getfield 9, 3) := by decide +kernel
theorem dX6_fillRow_12 : decode cX6_fillRow 12 = .ok (.iconst 0, 1) := by decide +kernel
theorem dX6_fillRow_13 : decode cX6_fillRow 13 = .ok (.iconst 1, 1) := by decide +kernel
theorem dX6_fillRow_14 : decode cX6_fillRow 14 = .ok (.bipush 67, 2) := by decide +kernel
theorem dX6_fillRow_16 : decode cX6_fillRow 16 = .ok (.invokestatic 50, 3) := by decide +kernel
theorem dX6_fillRow_19 : decode cX6_fillRow 19 = .ok (.aload_n 0, 1) := by decide +kernel
theorem dX6_fillRow_20 : decode cX6_fillRow 20 = .ok (.getfield 9, 3) := by decide +kernel
theorem dX6_fillRow_23 : decode cX6_fillRow 23 = .ok (.iconst 1, 1) := by decide +kernel
theorem dX6_fillRow_24 : decode cX6_fillRow 24 = .ok (.iconst 1, 1) := by decide +kernel
theorem dX6_fillRow_25 : decode cX6_fillRow 25 = .ok (.bipush 80, 2) := by decide +kernel
theorem dX6_fillRow_27 : decode cX6_fillRow 27 = .ok (.invokestatic 50, 3) := by decide +kernel
theorem dX6_fillRow_30 : decode cX6_fillRow 30 = .ok (.aload_n 0, 1) := by decide +kernel
theorem dX6_fillRow_31 : decode cX6_fillRow 31 = .ok (.getfield 9, 3) := by decide +kernel
theorem dX6_fillRow_34 : decode cX6_fillRow 34 = .ok (.iconst 2, 1) := by decide +kernel
theorem dX6_fillRow_35 : decode cX6_fillRow 35 = .ok (.iconst 4, 1) := by decide +kernel
theorem dX6_fillRow_36 : decode cX6_fillRow 36 = .ok (.aload_n 0, 1) := by decide +kernel
theorem dX6_fillRow_37 : decode cX6_fillRow 37 = .ok (.getfield 15, 3) := by decide +kernel
theorem dX6_fillRow_40 : decode cX6_fillRow 40 = .ok (.iconst 1, 1) := by decide +kernel
theorem dX6_fillRow_41 : decode cX6_fillRow 41 = .ok (.iadd, 1) := by decide +kernel
theorem dX6_fillRow_42 : decode cX6_fillRow 42 = .ok (.invokestatic 50, 3) := by decide +kernel
theorem dX6_fillRow_45 : decode cX6_fillRow 45 = .ok (.aload_n 0, 1) := by decide +kernel
theorem dX6_fillRow_46 : decode cX6_fillRow 46 = .ok (.getfield 9, 3) := by decide +kernel
theorem dX6_fillRow_49 : decode cX6_fillRow 49 = .ok (.bipush 6, 2) := by decide +kernel
theorem dX6_fillRow_51 : decode cX6_fillRow 51 = .ok (.iconst 4, 1) := by decide +kernel
theorem dX6_fillRow_52 : decode cX6_fillRow 52 = .ok (.aload_n 0, 1) := by decide +kernel
theorem dX6_fillRow_53 : decode cX6_fillRow 53 = .ok (.getfield 26, 3) := by decide +kernel
theorem dX6_fillRow_56 : decode cX6_fillRow 56 = .ok (.getfield 56, 3) := by decide +kernel
theorem dX6_fillRow_59 : decode cX6_fillRow 59 = .ok (.invokestatic 50, 3) := by decide +kernel
theorem dX6_fillRow_62 : decode cX6_fillRow 62 = .ok (.aload_n 0, 1) := by decide +kernel
theorem dX6_fillRow_63 : decode cX6_fillRow 63 = .ok (.getfield 9, 3) := by decide +kernel
theorem dX6_fillRow_66 : decode cX6_fillRow 66 = .ok (.bipush 10, 2) := by decide +kernel
theorem dX6_fillRow_68 : decode cX6_fillRow 68 = .ok (.iconst 4, 1) := by decide +kernel
theorem dX6_fillRow_69 : decode cX6_fillRow 69 = .ok (.aload_n 0, 1) := by decide +kernel
theorem dX6_fillRow_70 : decode cX6_fillRow 70 = .ok (.getfield 26, 3) := by decide +kernel
theorem dX6_fillRow_73 : decode cX6_fillRow 73 = .ok (.getfield 61, 3) := by decide +kernel
theorem dX6_fillRow_76 : decode cX6_fillRow 76 = .ok (.invokestatic 50, 3) := by decide +kernel
theorem dX6_fillRow_79 : decode cX6_fillRow 79 = .ok (.aload_n 0, 1) := by decide +kernel
theorem dX6_fillRow_80 : decode cX6_fillRow 80 = .ok (.getfield 9, 3) := by decide +kernel
theorem dX6_fillRow_83 : decode cX6_fillRow 83 = .ok (.bipush 14, 2) := by decide +kernel
theorem dX6_fillRow_85 : decode cX6_fillRow 85 = .ok (.iconst 1, 1) := by decide +kernel
theorem dX6_fillRow_86 : decode cX6_fillRow 86 = .ok (.aload_n 0, 1) := by decide +kernel
theorem dX6_fillRow_87 : decode cX6_fillRow 87 = .ok (.getfield 26, 3) := by decide +kernel
theorem dX6_fillRow_90 : decode cX6_fillRow 90 = .ok (.getfield 64, 3) := by decide +kernel
theorem dX6_fillRow_93 : decode cX6_fillRow 93 = .ok (.invokestatic 50, 3) := by decide +kernel
theorem dX6_fillRow_96 : decode cX6_fillRow 96 = .ok (.aload_n 0, 1) := by decide +kernel
theorem dX6_fillRow_97 : decode cX6_fillRow 97 = .ok (.getfield 9, 3) := by decide +kernel
theorem dX6_fillRow_100 : decode cX6_fillRow 100 = .ok (.bipush 15, 2) := by decide +kernel
theorem dX6_fillRow_102 : decode cX6_fillRow 102 = .ok (.iconst 2, 1) := by decide +kernel
theorem dX6_fillRow_103 : decode cX6_fillRow 103 = .ok (.aload_n 0, 1) := by decide +kernel
theorem dX6_fillRow_104 : decode cX6_fillRow 104 = .ok (.getfield 26, 3) := by decide +kernel
theorem dX6_fillRow_107 : decode cX6_fillRow 107 = .ok (.getfield 67, 3) := by decide +kernel
theorem dX6_fillRow_110 : decode cX6_fillRow 110 = .ok (.invokestatic 50, 3) := by decide +kernel
theorem dX6_fillRow_113 : decode cX6_fillRow 113 = .ok (.aload_n 0, 1) := by decide +kernel
theorem dX6_fillRow_114 : decode cX6_fillRow 114 = .ok (.getfield 9, 3) := by decide +kernel
theorem dX6_fillRow_117 : decode cX6_fillRow 117 = .ok (.bipush 17, 2) := by decide +kernel
theorem dX6_fillRow_119 : decode cX6_fillRow 119 = .ok (.iconst 4, 1) := by decide +kernel
theorem dX6_fillRow_120 : decode cX6_fillRow 120 = .ok (.aload_n 0, 1) := by decide +kernel
theorem dX6_fillRow_121 : decode cX6_fillRow 121 = .ok (.getfield 26, 3) := by decide +kernel
theorem dX6_fillRow_124 : decode cX6_fillRow 124 = .ok (.getfield 70, 3) := by decide +kernel
theorem dX6_fillRow_127 : decode cX6_fillRow 127 = .ok (.invokestatic 50, 3) := by decide +kernel
theorem dX6_fillRow_130 : decode cX6_fillRow 130 = .ok (.aload_n 0, 1) := by decide +kernel
theorem dX6_fillRow_131 : decode cX6_fillRow 131 = .ok (.getfield 9, 3) := by decide +kernel
theorem dX6_fillRow_134 : decode cX6_fillRow 134 = .ok (.bipush 21, 2) := by decide +kernel
theorem dX6_fillRow_136 : decode cX6_fillRow 136 = .ok (.iconst 2, 1) := by decide +kernel
theorem dX6_fillRow_137 : decode cX6_fillRow 137 = .ok (.aload_n 0, 1) := by decide +kernel
theorem dX6_fillRow_138 : decode cX6_fillRow 138 = .ok (.getfield 30, 3) := by decide +kernel
theorem dX6_fillRow_141 : decode cX6_fillRow 141 = .ok (.getfield 73, 3) := by decide +kernel
theorem dX6_fillRow_144 : decode cX6_fillRow 144 = .ok (.invokestatic 50, 3) := by decide +kernel
theorem dX6_fillRow_147 : decode cX6_fillRow 147 = .ok (.bipush 23, 2) := by decide +kernel
theorem dX6_fillRow_149 : decode cX6_fillRow 149 = .ok (.istore_n 1, 1) := by decide +kernel
theorem dX6_fillRow_150 : decode cX6_fillRow 150 = .ok (.iconst 0, 1) := by decide +kernel
theorem dX6_fillRow_151 : decode cX6_fillRow 151 = .ok (.istore_n 2, 1) := by decide +kernel
theorem dX6_fillRow_152 : decode cX6_fillRow 152 = .ok (.iload_n 2, 1) := by decide +kernel
theorem dX6_fillRow_153 : decode cX6_fillRow 153 = .ok (.sipush 300, 3) := by decide +kernel
theorem dX6_fillRow_156 : decode cX6_fillRow 156 = .ok (.if_icmp .ge 71, 3) := by decide +kernel
theorem dX6_fillRow_159 : decode cX6_fillRow 159 = .ok (.aload_n 0, 1) := by decide +kernel
theorem dX6_fillRow_160 : decode cX6_fillRow 160 = .ok (.getfield 30, 3) := by decide +kernel
theorem dX6_fillRow_163 : decode cX6_fillRow 163 = .ok (.iload_n 2, 1) := by decide +kernel
theorem dX6_fillRow_164 : decode cX6_fillRow 164 = .ok (.invokevirtual 78, 3) := by decide +kernel
theorem dX6_fillRow_167 : decode cX6_fillRow 167 = .ok (.ifCond .eq 54, 3) := by decide +kernel
theorem dX6_fillRow_221 : decode cX6_fillRow 221 = .ok (.iinc 2 1, 3) := by decide +kernel
theorem dX6_fillRow_224 : decode cX6_fillRow 224 = .ok (.goto (-72), 3) := by decide +kernel
theorem dX6_fillRow_227 : decode cX6_fillRow 227 = .ok (.bipush 8, 2) := by decide +kernel
theorem dX6_fillRow_229 : decode cX6_fillRow 229 = .ok (.istore_n 2, 1) := by decide +kernel
theorem dX6_fillRow_230 : decode cX6_fillRow 230 = .ok (.iload_n 2, 1) := by decide +kernel
theorem dX6_fillRow_231 : decode cX6_fillRow 231 = .ok (.bipush 64, 2) := by decide +kernel
theorem dX6_fillRow_233 : decode cX6_fillRow 233 = .ok (.if_icmp .ge 37, 3) := by decide +kernel
theorem dX6_fillRow_236 : decode cX6_fillRow 236 = .ok (.aload_n 0, 1) := by decide +kernel
theorem dX6_fillRow_237 : decode cX6_fillRow 237 = .ok (.getfield 9, 3) := by decide +kernel
theorem dX6_fillRow_240 : decode cX6_fillRow 240 = .ok (.iload_n 1, 1) := by decide +kernel
theorem dX6_fillRow_241 : decode cX6_fillRow 241 = .ok (.iconst 1, 1) := by decide +kernel
theorem dX6_fillRow_242 : decode cX6_fillRow 242 = .ok (.aload_n 0, 1) := by decide +kernel
theorem dX6_fillRow_243 : decode cX6_fillRow 243 = .ok (.getfield 26, 3) := by decide +kernel
theorem dX6_fillRow_246 : decode cX6_fillRow 246 = .ok (.iload_n 2, 1) := by decide +kernel
theorem dX6_fillRow_247 : decode cX6_fillRow 247 = .ok (.invokevirtual 89, 3) := by decide +kernel
theorem dX6_fillRow_250 : decode cX6_fillRow 250 = .ok (.ifCond .eq 7, 3) := by decide +kernel
theorem dX6_fillRow_257 : decode cX6_fillRow 257 = .ok (.iconst 0, 1) := by decide +kernel
theorem dX6_fillRow_258 : decode cX6_fillRow 258 = .ok (.invokestatic 50, 3) := by decide +kernel
theorem dX6_fillRow_261 : decode cX6_fillRow 261 = .ok (.iinc 1 1, 3) := by decide +kernel
theorem dX6_fillRow_264 : decode cX6_fillRow 264 = .ok (.iinc 2 1, 3) := by decide +kernel
theorem dX6_fillRow_267 : decode cX6_fillRow 267 = .ok (.goto (-37), 3) := by decide +kernel
theorem dX6_fillRow_270 : decode cX6_fillRow 270 = .ok (.aload_n 0, 1) := by decide +kernel
theorem dX6_fillRow_271 : decode cX6_fillRow 271 = .ok (.getfield 9, 3) := by decide +kernel
theorem dX6_fillRow_274 : decode cX6_fillRow 274 = .ok (.iconst 0, 1) := by decide +kernel
theorem dX6_fillRow_275 : decode cX6_fillRow 275 = .ok (.iload_n 1, 1) := by decide +kernel
theorem dX6_fillRow_276 : decode cX6_fillRow 276 = .ok (.invokestatic 92, 3) := by decide +kernel
theorem dX6_fillRow_279 : decode cX6_fillRow 279 = .ok (.iload_n 1, 1) := by decide +kernel
theorem dX6_fillRow_280 : decode cX6_fillRow 280 = .ok (.iconst 4, 1) := by decide +kernel
theorem dX6_fillRow_281 : decode cX6_fillRow 281 = .ok (.iadd, 1) := by decide +kernel
theorem dX6_fillRow_282 : decode cX6_fillRow 282 = .ok (.ireturn, 1) := by decide +kernel
theorem dX6_newest_0 : decode cX6_newest 0 = .ok (.aload_n 0, 1) := by decide +kernel
theorem dX6_newest_1 : decode cX6_newest 1 = .ok (.iconst 0, 1) := by decide +kernel
theorem dX6_newest_2 : decode cX6_newest 2 = .ok (.invokevirtual 96, 3) := by decide +kernel
theorem dX6_newest_5 : decode cX6_newest 5 = .ok (.istore_n 1, 1) := by decide +kernel
theorem dX6_newest_6 : decode cX6_newest 6 = .ok (.aload_n 0, 1) := by decide +kernel
theorem dX6_newest_7 : decode cX6_newest 7 = .ok (.iconst 1, 1) := by decide +kernel
theorem dX6_newest_8 : decode cX6_newest 8 = .ok (.invokevirtual 96, 3) := by decide +kernel
theorem dX6_newest_11 : decode cX6_newest 11 = .ok (.istore_n 2, 1) := by decide +kernel
theorem dX6_newest_12 : decode cX6_newest 12 = .ok (.iload_n 1, 1) := by decide +kernel
theorem dX6_newest_13 : decode cX6_newest 13 = .ok (.ifCond .eq 30, 3) := by decide +kernel
theorem dX6_newest_43 : decode cX6_newest 43 = .ok (.iload_n 1, 1) := by decide +kernel
theorem dX6_newest_44 : decode cX6_newest 44 = .ok (.ifCond .eq 5, 3) := by decide +kernel
theorem dX6_newest_49 : decode cX6_newest 49 = .ok (.iload_n 2, 1) := by decide +kernel
theorem dX6_newest_50 : decode cX6_newest 50 = .ok (.ifCond .eq 7, 3) := by decide +kernel
theorem dX6_newest_57 : decode cX6_newest 57 = .ok (.iconst (-1), 1) := by decide +kernel
theorem dX6_newest_58 : decode cX6_newest 58 = .ok (.ireturn, 1) := by decide +kernel
theorem dX6_numberAt_0 : decode cX6_numberAt 0 = .ok (.aload_n 0, 1) := by decide +kernel
theorem dX6_numberAt_1 : decode cX6_numberAt 1 = .ok (.getfield 22, 3) := by decide +kernel
theorem dX6_numberAt_4 : decode cX6_numberAt 4 = .ok (.getfield 103, 3) := by decide +kernel
theorem dX6_numberAt_7 : decode cX6_numberAt 7 = .ok (.iload_n 1, 1) := by decide +kernel
theorem dX6_numberAt_8 : decode cX6_numberAt 8 = .ok (.sipush 4096, 3) := by decide +kernel
theorem dX6_numberAt_11 : decode cX6_numberAt 11 = .ok (.imul, 1) := by decide +kernel
theorem dX6_numberAt_12 : decode cX6_numberAt 12 = .ok (.iload_n 2, 1) := by decide +kernel
theorem dX6_numberAt_13 : decode cX6_numberAt 13 = .ok (.iadd, 1) := by decide +kernel
theorem dX6_numberAt_14 : decode cX6_numberAt 14 = .ok (.iload_n 3, 1) := by decide +kernel
theorem dX6_numberAt_15 : decode cX6_numberAt 15 = .ok (.invokestatic 104, 3) := by decide +kernel
theorem dX6_numberAt_18 : decode cX6_numberAt 18 = .ok (.ireturn, 1) := by decide +kernel
theorem dX6_isRight_0 : decode cX6_isRight 0 = .ok (.aload_n 0, 1) := by decide +kernel
theorem dX6_isRight_1 : decode cX6_isRight 1 = .ok (.iload_n 1, 1) := by decide +kernel
theorem dX6_isRight_2 : decode cX6_isRight 2 = .ok (.bipush 21, 2) := by decide +kernel
theorem dX6_isRight_4 : decode cX6_isRight 4 = .ok (.iconst 2, 1) := by decide +kernel
theorem dX6_isRight_5 : decode cX6_isRight 5 = .ok (.invokevirtual 99, 3) := by decide +kernel
theorem dX6_isRight_8 : decode cX6_isRight 8 = .ok (.istore_n 2, 1) := by decide +kernel
theorem dX6_isRight_9 : decode cX6_isRight 9 = .ok (.bipush 23, 2) := by decide +kernel
theorem dX6_isRight_11 : decode cX6_isRight 11 = .ok (.iload_n 2, 1) := by decide +kernel
theorem dX6_isRight_12 : decode cX6_isRight 12 = .ok (.iconst 5, 1) := by decide +kernel
theorem dX6_isRight_13 : decode cX6_isRight 13 = .ok (.imul, 1) := by decide +kernel
theorem dX6_isRight_14 : decode cX6_isRight 14 = .ok (.iadd, 1) := by decide +kernel
theorem dX6_isRight_15 : decode cX6_isRight 15 = .ok (.istore_n 3, 1) := by decide +kernel
theorem dX6_isRight_16 : decode cX6_isRight 16 = .ok (.aload_n 0, 1) := by decide +kernel
theorem dX6_isRight_17 : decode cX6_isRight 17 = .ok (.iload_n 1, 1) := by decide +kernel
theorem dX6_isRight_18 : decode cX6_isRight 18 = .ok (.iconst 0, 1) := by decide +kernel
theorem dX6_isRight_19 : decode cX6_isRight 19 = .ok (.iconst 1, 1) := by decide +kernel
theorem dX6_isRight_20 : decode cX6_isRight 20 = .ok (.invokevirtual 99, 3) := by decide +kernel
theorem dX6_isRight_23 : decode cX6_isRight 23 = .ok (.bipush 67, 2) := by decide +kernel
theorem dX6_isRight_25 : decode cX6_isRight 25 = .ok (.if_icmp .ne 82, 3) := by decide +kernel
theorem dX6_isRight_107 : decode cX6_isRight 107 = .ok (.iconst 0, 1) := by decide +kernel
theorem dX6_isRight_108 : decode cX6_isRight 108 = .ok (.ireturn, 1) := by decide +kernel
theorem dX7_init_0 : decode cX7_init 0 = .ok (.aload_n 0, 1) := by decide +kernel
theorem dX7_init_1 : decode cX7_init 1 = .ok (.invokespecial 1, 3) := by decide +kernel
theorem dX7_init_4 : decode cX7_init 4 = .ok (.aload_n 0, 1) := by decide +kernel
theorem dX7_init_5 : decode cX7_init 5 = .ok (.new 7, 3) := by decide +kernel
theorem dX7_init_8 : decode cX7_init 8 = .ok (.dup, 1) := by decide +kernel
theorem dX7_init_9 : decode cX7_init 9 = .ok (.invokespecial 9, 3) := by decide +kernel
theorem dX7_init_12 : decode cX7_init 12 = .ok (.putfield 10, 3) := by decide +kernel
theorem dX7_init_15 : decode cX7_init 15 = .ok (.aload_n 0, 1) := by decide +kernel
theorem dX7_init_16 : decode cX7_init 16 = .ok (.new 16, 3) := by decide +kernel
theorem dX7_init_19 : decode cX7_init 19 = .ok (.dup, 1) := by decide +kernel
theorem dX7_init_20 : decode cX7_init 20 = .ok (.invokespecial 18, 3) := by decide +kernel
theorem dX7_init_23 : decode cX7_init 23 = .ok (.putfield 19, 3) := by decide +kernel
theorem dX7_init_26 : decode cX7_init 26 = .ok (.aload_n 0, 1) := by decide +kernel
theorem dX7_init_27 : decode cX7_init 27 = .ok (.new 23, 3) := by decide +kernel
theorem dX7_init_30 : decode cX7_init 30 = .ok (.dup, 1) := by decide +kernel
theorem dX7_init_31 : decode cX7_init 31 = .ok (.aload_n 0, 1) := by decide +kernel
theorem dX7_init_32 : decode cX7_init 32 = .ok (.getfield 19, 3) := by decide +kernel
theorem dX7_init_35 : decode cX7_init 35 = .ok (.invokespecial 25, 3) := by decide +kernel
theorem dX7_init_38 : decode cX7_init 38 = .ok (.putfield 28, 3) := by decide +kernel
theorem dX7_init_41 : decode cX7_init 41 = .ok (.aload_n 0, 1) := by decide +kernel
theorem dX7_init_42 : decode cX7_init 42 = .ok (.new 32, 3) := by decide +kernel
theorem dX7_init_45 : decode cX7_init 45 = .ok (.dup, 1) := by decide +kernel
theorem dX7_init_46 : decode cX7_init 46 = .ok (.aload_n 0, 1) := by decide +kernel
theorem dX7_init_47 : decode cX7_init 47 = .ok (.getfield 28, 3) := by decide +kernel
theorem dX7_init_50 : decode cX7_init 50 = .ok (.aload_n 0, 1) := by decide +kernel
theorem dX7_init_51 : decode cX7_init 51 = .ok (.getfield 19, 3) := by decide +kernel
theorem dX7_init_54 : decode cX7_init 54 = .ok (.invokespecial 34, 3) := by decide +kernel
theorem dX7_init_57 : decode cX7_init 57 = .ok (.putfield 37, 3) := by decide +kernel
theorem dX7_init_60 : decode cX7_init 60 = .ok (.aload_n 0, 1) := by decide +kernel
theorem dX7_init_61 : decode cX7_init 61 = .ok (.new 41, 3) := by decide +kernel
theorem dX7_init_64 : decode cX7_init 64 = .ok (.dup, 1) := by decide +kernel
theorem dX7_init_65 : decode cX7_init 65 = .ok (.aload_n 0, 1) := by decide +kernel
theorem dX7_init_66 : decode cX7_init 66 = .ok (.getfield 10, 3) := by decide +kernel
theorem dX7_init_69 : decode cX7_init 69 = .ok (.aload_n 0, 1) := by decide +kernel
theorem dX7_init_70 : decode cX7_init 70 = .ok (.getfield 28, 3) := by decide +kernel
theorem dX7_init_73 : decode cX7_init 73 = .ok (.aload_n 0, 1) := by decide +kernel
theorem dX7_init_74 : decode cX7_init 74 = .ok (.getfield 19, 3) := by decide +kernel
theorem dX7_init_77 : decode cX7_init 77 = .ok (.invokespecial 43, 3) := by decide +kernel
theorem dX7_init_80 : decode cX7_init 80 = .ok (.putfield 46, 3) := by decide +kernel
theorem dX7_init_83 : decode cX7_init 83 = .ok (.aload_n 0, 1) := by decide +kernel
theorem dX7_init_84 : decode cX7_init 84 = .ok (.new 50, 3) := by decide +kernel
theorem dX7_init_87 : decode cX7_init 87 = .ok (.dup, 1) := by decide +kernel
theorem dX7_init_88 : decode cX7_init 88 = .ok (.aload_n 0, 1) := by decide +kernel
theorem dX7_init_89 : decode cX7_init 89 = .ok (.getfield 10, 3) := by decide +kernel
theorem dX7_init_92 : decode cX7_init 92 = .ok (.aload_n 0, 1) := by decide +kernel
theorem dX7_init_93 : decode cX7_init 93 = .ok (.getfield 28, 3) := by decide +kernel
theorem dX7_init_96 : decode cX7_init 96 = .ok (.aload_n 0, 1) := by decide +kernel
theorem dX7_init_97 : decode cX7_init 97 = .ok (.getfield 19, 3) := by decide +kernel
theorem dX7_init_100 : decode cX7_init 100 = .ok (.aload_n 0, 1) := by decide +kernel
theorem dX7_init_101 : decode cX7_init 101 = .ok (.getfield 46, 3) := by decide +kernel
theorem dX7_init_104 : decode cX7_init 104 = .ok (.invokespecial 52, 3) := by decide +kernel
theorem dX7_init_107 : decode cX7_init 107 = .ok (.putfield 55, 3) := by decide +kernel
theorem dX7_init_110 : decode cX7_init 110 = .ok (.aload_n 0, 1) := by decide +kernel
theorem dX7_init_111 : decode cX7_init 111 = .ok (.bipush 100, 2) := by decide +kernel
theorem dX7_init_113 : decode cX7_init 113 = .ok (.newarray .byte, 2) := by decide +kernel
theorem dX7_init_115 : decode cX7_init 115 = .ok (.putfield 59, 3) := by decide +kernel
theorem dX7_init_118 : decode cX7_init 118 = .ok (.aload_n 0, 1) := by decide +kernel
theorem dX7_init_119 : decode cX7_init 119 = .ok (.iconst 0, 1) := by decide +kernel
theorem dX7_init_120 : decode cX7_init 120 = .ok (.putfield 63, 3) := by decide +kernel
theorem dX7_init_123 : decode cX7_init 123 = .ok (.aload_n 0, 1) := by decide +kernel
theorem dX7_init_124 : decode cX7_init 124 = .ok (.iconst 0, 1) := by decide +kernel
theorem dX7_init_125 : decode cX7_init 125 = .ok (.putfield 67, 3) := by decide +kernel
theorem dX7_init_128 : decode cX7_init 128 = .ok (.return_, 1) := by decide +kernel
theorem dX7_feed_0 : decode cX7_feed 0 = .ok (.iload_n 3, 1) := by decide +kernel
theorem dX7_feed_1 : decode cX7_feed 1 = .ok (.ifCond .lt 9, 3) := by decide +kernel
theorem dX7_feed_4 : decode cX7_feed 4 = .ok (.iload_n 3, 1) := by decide +kernel
theorem dX7_feed_5 : decode cX7_feed 5 = .ok (.bipush 8, 2) := by decide +kernel
theorem dX7_feed_7 : decode cX7_feed 7 = .ok (.if_icmp .le 6, 3) := by decide +kernel
theorem dX7_feed_10 : decode cX7_feed 10 = .ok (.bipush (-2), 2) := by decide +kernel
theorem dX7_feed_12 : decode cX7_feed 12 = .ok (.ireturn, 1) := by decide +kernel
theorem dX7_feed_13 : decode cX7_feed 13 = .ok (.iload_n 3, 1) := by decide +kernel
theorem dX7_feed_14 : decode cX7_feed 14 = .ok (.ifCond .ne 10, 3) := by decide +kernel
theorem dX7_feed_17 : decode cX7_feed 17 = .ok (.aload_n 0, 1) := by decide +kernel
theorem dX7_feed_18 : decode cX7_feed 18 = .ok (.iconst 0, 1) := by decide +kernel
theorem dX7_feed_19 : decode cX7_feed 19 = .ok (.putfield 63, 3) := by decide +kernel
theorem dX7_feed_22 : decode cX7_feed 22 = .ok (.iconst 0, 1) := by decide +kernel
theorem dX7_feed_23 : decode cX7_feed 23 = .ok (.ireturn, 1) := by decide +kernel
theorem dX7_feed_24 : decode cX7_feed 24 = .ok (.aload_n 0, 1) := by decide +kernel
theorem dX7_feed_25 : decode cX7_feed 25 = .ok (.getfield 63, 3) := by decide +kernel
theorem dX7_feed_28 : decode cX7_feed 28 = .ok (.iload_n 3, 1) := by decide +kernel
theorem dX7_feed_29 : decode cX7_feed 29 = .ok (.iadd, 1) := by decide +kernel
theorem dX7_feed_30 : decode cX7_feed 30 = .ok (.bipush 100, 2) := by decide +kernel
theorem dX7_feed_32 : decode cX7_feed 32 = .ok (.if_icmp .le 6, 3) := by decide +kernel
theorem dX7_feed_38 : decode cX7_feed 38 = .ok (.iload_n 3, 1) := by decide +kernel
theorem dX7_feed_39 : decode cX7_feed 39 = .ok (.iconst 1, 1) := by decide +kernel
theorem dX7_feed_40 : decode cX7_feed 40 = .ok (.isub, 1) := by decide +kernel
theorem dX7_feed_41 : decode cX7_feed 41 = .ok (.istore 4, 2) := by decide +kernel
theorem dX7_feed_43 : decode cX7_feed 43 = .ok (.iload 4, 2) := by decide +kernel
theorem dX7_feed_45 : decode cX7_feed 45 = .ok (.ifCond .lt 37, 3) := by decide +kernel
theorem dX7_feed_48 : decode cX7_feed 48 = .ok (.aload_n 0, 1) := by decide +kernel
theorem dX7_feed_49 : decode cX7_feed 49 = .ok (.getfield 59, 3) := by decide +kernel
theorem dX7_feed_52 : decode cX7_feed 52 = .ok (.aload_n 0, 1) := by decide +kernel
theorem dX7_feed_53 : decode cX7_feed 53 = .ok (.getfield 63, 3) := by decide +kernel
theorem dX7_feed_56 : decode cX7_feed 56 = .ok (.lload_n 1, 1) := by decide +kernel
theorem dX7_feed_57 : decode cX7_feed 57 = .ok (.bipush 8, 2) := by decide +kernel
theorem dX7_feed_59 : decode cX7_feed 59 = .ok (.iload 4, 2) := by decide +kernel
theorem dX7_feed_61 : decode cX7_feed 61 = .ok (.imul, 1) := by decide +kernel
theorem dX7_feed_62 : decode cX7_feed 62 = .ok (.lushr, 1) := by decide +kernel
theorem dX7_feed_63 : decode cX7_feed 63 = .ok (.l2i, 1) := by decide +kernel
theorem dX7_feed_64 : decode cX7_feed 64 = .ok (.i2b, 1) := by decide +kernel
theorem dX7_feed_65 : decode cX7_feed 65 = .ok (.bastore, 1) := by decide +kernel
theorem dX7_feed_66 : decode cX7_feed 66 = .ok (.aload_n 0, 1) := by decide +kernel
theorem dX7_feed_67 : decode cX7_feed 67 = .ok (.dup, 1) := by decide +kernel
theorem dX7_feed_68 : decode cX7_feed 68 = .ok (.getfield 63, 3) := by decide +kernel
theorem dX7_feed_71 : decode cX7_feed 71 = .ok (.iconst 1, 1) := by decide +kernel
theorem dX7_feed_72 : decode cX7_feed 72 = .ok (.iadd, 1) := by decide +kernel
theorem dX7_feed_73 : decode cX7_feed 73 = .ok (.putfield 63, 3) := by decide +kernel
theorem dX7_feed_76 : decode cX7_feed 76 = .ok (.iinc 4 (-1), 3) := by decide +kernel
theorem dX7_feed_79 : decode cX7_feed 79 = .ok (.goto (-36), 3) := by decide +kernel
theorem dX7_feed_82 : decode cX7_feed 82 = .ok (.aload_n 0, 1) := by decide +kernel
theorem dX7_feed_83 : decode cX7_feed 83 = .ok (.getfield 63, 3) := by decide +kernel
theorem dX7_feed_86 : decode cX7_feed 86 = .ok (.ireturn, 1) := by decide +kernel
theorem dX7_put_0 : decode cX7_put 0 = .ok (.aload_n 0, 1) := by decide +kernel
theorem dX7_put_1 : decode cX7_put 1 = .ok (.getfield 67, 3) := by decide +kernel
theorem dX7_put_4 : decode cX7_put 4 = .ok (.ifCond .eq 6, 3) := by decide +kernel
theorem dX7_put_10 : decode cX7_put 10 = .ok (.iload_n 1, 1) := by decide +kernel
theorem dX7_put_11 : decode cX7_put 11 = .ok (.invokestatic 71, 3) := by decide +kernel
theorem dX7_put_14 : decode cX7_put 14 = .ok (.ifCond .ne 6, 3) := by decide +kernel
theorem dX7_put_17 : decode cX7_put 17 = .ok (.bipush (-2), 2) := by decide +kernel
theorem dX7_put_19 : decode cX7_put 19 = .ok (.ireturn, 1) := by decide +kernel
theorem dX7_put_20 : decode cX7_put 20 = .ok (.aload_n 0, 1) := by decide +kernel
theorem dX7_put_21 : decode cX7_put 21 = .ok (.getfield 28, 3) := by decide +kernel
theorem dX7_put_24 : decode cX7_put 24 = .ok (.bipush 16, 2) := by decide +kernel
theorem dX7_put_26 : decode cX7_put 26 = .ok (.aload_n 0, 1) := by decide +kernel
theorem dX7_put_27 : decode cX7_put 27 = .ok (.getfield 63, 3) := by decide +kernel
theorem dX7_put_30 : decode cX7_put 30 = .ok (.iadd, 1) := by decide +kernel
theorem dX7_put_31 : decode cX7_put 31 = .ok (.invokevirtual 75, 3) := by decide +kernel
theorem dX7_put_34 : decode cX7_put 34 = .ok (.ifCond .ne 6, 3) := by decide +kernel
theorem dX7_put_40 : decode cX7_put 40 = .ok (.aload_n 0, 1) := by decide +kernel
theorem dX7_put_41 : decode cX7_put 41 = .ok (.getfield 28, 3) := by decide +kernel
theorem dX7_put_44 : decode cX7_put 44 = .ok (.iconst 1, 1) := by decide +kernel
theorem dX7_put_45 : decode cX7_put 45 = .ok (.iload_n 1, 1) := by decide +kernel
theorem dX7_put_46 : decode cX7_put 46 = .ok (.aload_n 0, 1) := by decide +kernel
theorem dX7_put_47 : decode cX7_put 47 = .ok (.getfield 28, 3) := by decide +kernel
theorem dX7_put_50 : decode cX7_put 50 = .ok (.getfield 78, 3) := by decide +kernel
theorem dX7_put_53 : decode cX7_put 53 = .ok (.aload_n 0, 1) := by decide +kernel
theorem dX7_put_54 : decode cX7_put 54 = .ok (.getfield 59, 3) := by decide +kernel
theorem dX7_put_57 : decode cX7_put 57 = .ok (.iconst 0, 1) := by decide +kernel
theorem dX7_put_58 : decode cX7_put 58 = .ok (.aload_n 0, 1) := by decide +kernel
theorem dX7_put_59 : decode cX7_put 59 = .ok (.getfield 63, 3) := by decide +kernel
theorem dX7_put_62 : decode cX7_put 62 = .ok (.invokevirtual 81, 3) := by decide +kernel
theorem dX7_put_65 : decode cX7_put 65 = .ok (.istore_n 2, 1) := by decide +kernel
theorem dX7_put_66 : decode cX7_put 66 = .ok (.aload_n 0, 1) := by decide +kernel
theorem dX7_put_67 : decode cX7_put 67 = .ok (.iconst 0, 1) := by decide +kernel
theorem dX7_put_68 : decode cX7_put 68 = .ok (.putfield 63, 3) := by decide +kernel
theorem dX7_put_71 : decode cX7_put 71 = .ok (.iload_n 2, 1) := by decide +kernel
theorem dX7_put_72 : decode cX7_put 72 = .ok (.ireturn, 1) := by decide +kernel
theorem dX7_remove_0 : decode cX7_remove 0 = .ok (.aload_n 0, 1) := by decide +kernel
theorem dX7_remove_1 : decode cX7_remove 1 = .ok (.getfield 67, 3) := by decide +kernel
theorem dX7_remove_4 : decode cX7_remove 4 = .ok (.ifCond .eq 6, 3) := by decide +kernel
theorem dX7_remove_10 : decode cX7_remove 10 = .ok (.aload_n 0, 1) := by decide +kernel
theorem dX7_remove_11 : decode cX7_remove 11 = .ok (.getfield 19, 3) := by decide +kernel
theorem dX7_remove_14 : decode cX7_remove 14 = .ok (.iload_n 1, 1) := by decide +kernel
theorem dX7_remove_15 : decode cX7_remove 15 = .ok (.invokevirtual 85, 3) := by decide +kernel
theorem dX7_remove_18 : decode cX7_remove 18 = .ok (.ifCond .ne 5, 3) := by decide +kernel
theorem dX7_remove_21 : decode cX7_remove 21 = .ok (.iconst (-1), 1) := by decide +kernel
theorem dX7_remove_22 : decode cX7_remove 22 = .ok (.ireturn, 1) := by decide +kernel
theorem dX7_size_0 : decode cX7_size 0 = .ok (.aload_n 0, 1) := by decide +kernel
theorem dX7_size_1 : decode cX7_size 1 = .ok (.getfield 67, 3) := by decide +kernel
theorem dX7_size_4 : decode cX7_size 4 = .ok (.ifCond .eq 6, 3) := by decide +kernel
theorem dX7_size_10 : decode cX7_size 10 = .ok (.aload_n 0, 1) := by decide +kernel
theorem dX7_size_11 : decode cX7_size 11 = .ok (.getfield 19, 3) := by decide +kernel
theorem dX7_size_14 : decode cX7_size 14 = .ok (.iload_n 1, 1) := by decide +kernel
theorem dX7_size_15 : decode cX7_size 15 = .ok (.invokevirtual 85, 3) := by decide +kernel
theorem dX7_size_18 : decode cX7_size 18 = .ok (.ifCond .eq 14, 3) := by decide +kernel
theorem dX7_size_32 : decode cX7_size 32 = .ok (.iconst (-1), 1) := by decide +kernel
theorem dX7_size_33 : decode cX7_size 33 = .ok (.ireturn, 1) := by decide +kernel
theorem dX7_value_0 : decode cX7_value 0 = .ok (.aload_n 0, 1) := by decide +kernel
theorem dX7_value_1 : decode cX7_value 1 = .ok (.getfield 67, 3) := by decide +kernel
theorem dX7_value_4 : decode cX7_value 4 = .ok (.ifCond .eq 6, 3) := by decide +kernel
theorem dX7_value_10 : decode cX7_value 10 = .ok (.aload_n 0, 1) := by decide +kernel
theorem dX7_value_11 : decode cX7_value 11 = .ok (.getfield 19, 3) := by decide +kernel
theorem dX7_value_14 : decode cX7_value 14 = .ok (.iload_n 1, 1) := by decide +kernel
theorem dX7_value_15 : decode cX7_value 15 = .ok (.invokevirtual 85, 3) := by decide +kernel
theorem dX7_value_18 : decode cX7_value 18 = .ok (.ifCond .eq 19, 3) := by decide +kernel
theorem dX7_value_37 : decode cX7_value 37 = .ok (.iconst (-1), 1) := by decide +kernel
theorem dX7_value_38 : decode cX7_value 38 = .ok (.ireturn, 1) := by decide +kernel
theorem dX7_sync_0 : decode cX7_sync 0 = .ok (.aload_n 0, 1) := by decide +kernel
theorem dX7_sync_1 : decode cX7_sync 1 = .ok (.getfield 67, 3) := by decide +kernel
theorem dX7_sync_4 : decode cX7_sync 4 = .ok (.ifCond .eq 6, 3) := by decide +kernel
theorem dX7_sync_10 : decode cX7_sync 10 = .ok (.aload_n 0, 1) := by decide +kernel
theorem dX7_sync_11 : decode cX7_sync 11 = .ok (.getfield 28, 3) := by decide +kernel
theorem dX7_sync_14 : decode cX7_sync 14 = .ok (.aload_n 0, 1) := by decide +kernel
theorem dX7_sync_15 : decode cX7_sync 15 = .ok (.getfield 10, 3) := by decide +kernel
theorem dX7_sync_18 : decode cX7_sync 18 = .ok (.invokevirtual 104, 3) := by decide +kernel
theorem dX7_sync_21 : decode cX7_sync 21 = .ok (.istore_n 1, 1) := by decide +kernel
theorem dX7_sync_22 : decode cX7_sync 22 = .ok (.aload_n 0, 1) := by decide +kernel
theorem dX7_sync_23 : decode cX7_sync 23 = .ok (.iload_n 1, 1) := by decide +kernel
theorem dX7_sync_24 : decode cX7_sync 24 = .ok (.bipush (-5), 2) := by decide +kernel
theorem dX7_sync_26 : decode cX7_sync 26 = .ok (.if_icmp .ne 7, 3) := by decide +kernel
theorem dX7_sync_33 : decode cX7_sync 33 = .ok (.iconst 0, 1) := by decide +kernel
theorem dX7_sync_34 : decode cX7_sync 34 = .ok (.putfield 67, 3) := by decide +kernel
theorem dX7_sync_37 : decode cX7_sync 37 = .ok (.iload_n 1, 1) := by decide +kernel
theorem dX7_sync_38 : decode cX7_sync 38 = .ok (.ireturn, 1) := by decide +kernel
theorem dX7_checkpoint_0 : decode cX7_checkpoint 0 = .ok (.aload_n 0, 1) := by decide +kernel
theorem dX7_checkpoint_1 : decode cX7_checkpoint 1 = .ok (.getfield 67, 3) := by decide +kernel
theorem dX7_checkpoint_4 : decode cX7_checkpoint 4 = .ok (.ifCond .eq 6, 3) := by decide +kernel
theorem dX7_checkpoint_10 : decode cX7_checkpoint 10 = .ok (.aload_n 0, 1) := by decide +kernel
theorem dX7_checkpoint_11 : decode cX7_checkpoint 11 = .ok (.getfield 28, 3) := by decide +kernel
theorem dX7_checkpoint_14 : decode cX7_checkpoint 14 = .ok (.aload_n 0, 1) := by decide +kernel
theorem dX7_checkpoint_15 : decode cX7_checkpoint 15 = .ok (.getfield 10, 3) := by decide +kernel
theorem dX7_checkpoint_18 : decode cX7_checkpoint 18 = .ok (.invokevirtual 104, 3) := by decide +kernel
theorem dX7_checkpoint_21 : decode cX7_checkpoint 21 = .ok (.bipush (-5), 2) := by decide +kernel
theorem dX7_checkpoint_23 : decode cX7_checkpoint 23 = .ok (.if_icmp .eq 13, 3) := by decide +kernel
theorem dX7_checkpoint_26 : decode cX7_checkpoint 26 = .ok (.aload_n 0, 1) := by decide +kernel
theorem dX7_checkpoint_27 : decode cX7_checkpoint 27 = .ok (.getfield 46, 3) := by decide +kernel
theorem dX7_checkpoint_30 : decode cX7_checkpoint 30 = .ok (.invokevirtual 108, 3) := by decide +kernel
theorem dX7_checkpoint_33 : decode cX7_checkpoint 33 = .ok (.ifCond .ne 11, 3) := by decide +kernel
theorem dX7_checkpoint_44 : decode cX7_checkpoint 44 = .ok (.aload_n 0, 1) := by decide +kernel
theorem dX7_checkpoint_45 : decode cX7_checkpoint 45 = .ok (.getfield 28, 3) := by decide +kernel
theorem dX7_checkpoint_48 : decode cX7_checkpoint 48 = .ok (.invokevirtual 112, 3) := by decide +kernel
theorem dX7_checkpoint_51 : decode cX7_checkpoint 51 = .ok (.aload_n 0, 1) := by decide +kernel
theorem dX7_checkpoint_52 : decode cX7_checkpoint 52 = .ok (.getfield 46, 3) := by decide +kernel
theorem dX7_checkpoint_55 : decode cX7_checkpoint 55 = .ok (.getfield 115, 3) := by decide +kernel
theorem dX7_checkpoint_58 : decode cX7_checkpoint 58 = .ok (.ireturn, 1) := by decide +kernel
theorem dX7_clean_0 : decode cX7_clean 0 = .ok (.aload_n 0, 1) := by decide +kernel
theorem dX7_clean_1 : decode cX7_clean 1 = .ok (.getfield 67, 3) := by decide +kernel
theorem dX7_clean_4 : decode cX7_clean 4 = .ok (.ifCond .eq 6, 3) := by decide +kernel
theorem dX7_clean_10 : decode cX7_clean 10 = .ok (.iload_n 1, 1) := by decide +kernel
theorem dX7_clean_11 : decode cX7_clean 11 = .ok (.iconst 1, 1) := by decide +kernel
theorem dX7_clean_12 : decode cX7_clean 12 = .ok (.if_icmp .lt 9, 3) := by decide +kernel
theorem dX7_clean_15 : decode cX7_clean 15 = .ok (.iload_n 1, 1) := by decide +kernel
theorem dX7_clean_16 : decode cX7_clean 16 = .ok (.bipush 8, 2) := by decide +kernel
theorem dX7_clean_18 : decode cX7_clean 18 = .ok (.if_icmp .le 6, 3) := by decide +kernel
theorem dX7_clean_21 : decode cX7_clean 21 = .ok (.bipush (-2), 2) := by decide +kernel
theorem dX7_clean_23 : decode cX7_clean 23 = .ok (.ireturn, 1) := by decide +kernel
theorem dX7_clean_24 : decode cX7_clean 24 = .ok (.aload_n 0, 1) := by decide +kernel
theorem dX7_clean_25 : decode cX7_clean 25 = .ok (.getfield 37, 3) := by decide +kernel
theorem dX7_clean_28 : decode cX7_clean 28 = .ok (.iload_n 1, 1) := by decide +kernel
theorem dX7_clean_29 : decode cX7_clean 29 = .ok (.invokevirtual 117, 3) := by decide +kernel
theorem dX7_clean_32 : decode cX7_clean 32 = .ok (.ireturn, 1) := by decide +kernel
theorem dX7_tick_0 : decode cX7_tick 0 = .ok (.aload_n 0, 1) := by decide +kernel
theorem dX7_tick_1 : decode cX7_tick 1 = .ok (.getfield 67, 3) := by decide +kernel
theorem dX7_tick_4 : decode cX7_tick 4 = .ok (.ifCond .eq 6, 3) := by decide +kernel
theorem dX7_tick_10 : decode cX7_tick 10 = .ok (.iload_n 1, 1) := by decide +kernel
theorem dX7_tick_11 : decode cX7_tick 11 = .ok (.ifCond .lt 9, 3) := by decide +kernel
theorem dX7_tick_14 : decode cX7_tick 14 = .ok (.iload_n 1, 1) := by decide +kernel
theorem dX7_tick_15 : decode cX7_tick 15 = .ok (.ldc 120, 2) := by decide +kernel
theorem dX7_tick_17 : decode cX7_tick 17 = .ok (.if_icmp .le 6, 3) := by decide +kernel
theorem dX7_tick_20 : decode cX7_tick 20 = .ok (.bipush (-2), 2) := by decide +kernel
theorem dX7_tick_22 : decode cX7_tick 22 = .ok (.ireturn, 1) := by decide +kernel
theorem dX7_tick_23 : decode cX7_tick 23 = .ok (.aload_n 0, 1) := by decide +kernel
theorem dX7_tick_24 : decode cX7_tick 24 = .ok (.getfield 28, 3) := by decide +kernel
theorem dX7_tick_27 : decode cX7_tick 27 = .ok (.dup, 1) := by decide +kernel
theorem dX7_tick_28 : decode cX7_tick 28 = .ok (.getfield 78, 3) := by decide +kernel
theorem dX7_tick_31 : decode cX7_tick 31 = .ok (.iload_n 1, 1) := by decide +kernel
theorem dX7_tick_32 : decode cX7_tick 32 = .ok (.iadd, 1) := by decide +kernel
theorem dX7_tick_33 : decode cX7_tick 33 = .ok (.putfield 78, 3) := by decide +kernel
theorem dX7_tick_36 : decode cX7_tick 36 = .ok (.aload_n 0, 1) := by decide +kernel
theorem dX7_tick_37 : decode cX7_tick 37 = .ok (.getfield 28, 3) := by decide +kernel
theorem dX7_tick_40 : decode cX7_tick 40 = .ok (.getfield 78, 3) := by decide +kernel
theorem dX7_tick_43 : decode cX7_tick 43 = .ok (.ireturn, 1) := by decide +kernel
theorem dX7_cut_0 : decode cX7_cut 0 = .ok (.aload_n 0, 1) := by decide +kernel
theorem dX7_cut_1 : decode cX7_cut 1 = .ok (.getfield 67, 3) := by decide +kernel
theorem dX7_cut_4 : decode cX7_cut 4 = .ok (.ifCond .eq 6, 3) := by decide +kernel
theorem dX7_cut_10 : decode cX7_cut 10 = .ok (.iload_n 1, 1) := by decide +kernel
theorem dX7_cut_11 : decode cX7_cut 11 = .ok (.ifCond .lt 20, 3) := by decide +kernel
theorem dX7_cut_14 : decode cX7_cut 14 = .ok (.iload_n 1, 1) := by decide +kernel
theorem dX7_cut_15 : decode cX7_cut 15 = .ok (.sipush 10000, 3) := by decide +kernel
theorem dX7_cut_18 : decode cX7_cut 18 = .ok (.if_icmp .gt 13, 3) := by decide +kernel
theorem dX7_cut_21 : decode cX7_cut 21 = .ok (.iload_n 2, 1) := by decide +kernel
theorem dX7_cut_22 : decode cX7_cut 22 = .ok (.ifCond .lt 9, 3) := by decide +kernel
theorem dX7_cut_25 : decode cX7_cut 25 = .ok (.iload_n 2, 1) := by decide +kernel
theorem dX7_cut_26 : decode cX7_cut 26 = .ok (.bipush 64, 2) := by decide +kernel
theorem dX7_cut_28 : decode cX7_cut 28 = .ok (.if_icmp .lt 6, 3) := by decide +kernel
theorem dX7_cut_31 : decode cX7_cut 31 = .ok (.bipush (-2), 2) := by decide +kernel
theorem dX7_cut_33 : decode cX7_cut 33 = .ok (.ireturn, 1) := by decide +kernel
theorem dX7_cut_34 : decode cX7_cut 34 = .ok (.aload_n 0, 1) := by decide +kernel
theorem dX7_cut_35 : decode cX7_cut 35 = .ok (.getfield 10, 3) := by decide +kernel
theorem dX7_cut_38 : decode cX7_cut 38 = .ok (.iload_n 1, 1) := by decide +kernel
theorem dX7_cut_39 : decode cX7_cut 39 = .ok (.iload_n 2, 1) := by decide +kernel
theorem dX7_cut_40 : decode cX7_cut 40 = .ok (.invokevirtual 121, 3) := by decide +kernel
theorem dX7_cut_43 : decode cX7_cut 43 = .ok (.iconst 1, 1) := by decide +kernel
theorem dX7_cut_44 : decode cX7_cut 44 = .ok (.ireturn, 1) := by decide +kernel
theorem dX7_start_0 : decode cX7_start 0 = .ok (.aload_n 0, 1) := by decide +kernel
theorem dX7_start_1 : decode cX7_start 1 = .ok (.getfield 10, 3) := by decide +kernel
theorem dX7_start_4 : decode cX7_start 4 = .ok (.iconst 0, 1) := by decide +kernel
theorem dX7_start_5 : decode cX7_start 5 = .ok (.iconst 0, 1) := by decide +kernel
theorem dX7_start_6 : decode cX7_start 6 = .ok (.invokevirtual 121, 3) := by decide +kernel
theorem dX7_start_9 : decode cX7_start 9 = .ok (.aload_n 0, 1) := by decide +kernel
theorem dX7_start_10 : decode cX7_start 10 = .ok (.iconst 0, 1) := by decide +kernel
theorem dX7_start_11 : decode cX7_start 11 = .ok (.putfield 67, 3) := by decide +kernel
theorem dX7_start_14 : decode cX7_start 14 = .ok (.aload_n 0, 1) := by decide +kernel
theorem dX7_start_15 : decode cX7_start 15 = .ok (.getfield 55, 3) := by decide +kernel
theorem dX7_start_18 : decode cX7_start 18 = .ok (.invokevirtual 125, 3) := by decide +kernel
theorem dX7_start_21 : decode cX7_start 21 = .ok (.aload_n 0, 1) := by decide +kernel
theorem dX7_start_22 : decode cX7_start 22 = .ok (.getfield 55, 3) := by decide +kernel
theorem dX7_start_25 : decode cX7_start 25 = .ok (.invokevirtual 128, 3) := by decide +kernel
theorem dX7_start_28 : decode cX7_start 28 = .ok (.istore_n 1, 1) := by decide +kernel
theorem dX7_start_29 : decode cX7_start 29 = .ok (.aload_n 0, 1) := by decide +kernel
theorem dX7_start_30 : decode cX7_start 30 = .ok (.getfield 55, 3) := by decide +kernel
theorem dX7_start_33 : decode cX7_start 33 = .ok (.invokevirtual 132, 3) := by decide +kernel
theorem dX7_start_36 : decode cX7_start 36 = .ok (.iload_n 1, 1) := by decide +kernel
theorem dX7_start_37 : decode cX7_start 37 = .ok (.ireturn, 1) := by decide +kernel
theorem dX7_disk_0 : decode cX7_disk 0 = .ok (.iload_n 1, 1) := by decide +kernel
theorem dX7_disk_1 : decode cX7_disk 1 = .ok (.iload_n 2, 1) := by decide +kernel
theorem dX7_disk_2 : decode cX7_disk 2 = .ok (.invokestatic 135, 3) := by decide +kernel
theorem dX7_disk_5 : decode cX7_disk 5 = .ok (.ifCond .ne 5, 3) := by decide +kernel
theorem dX7_disk_8 : decode cX7_disk 8 = .ok (.iconst (-1), 1) := by decide +kernel
theorem dX7_disk_9 : decode cX7_disk 9 = .ok (.ireturn, 1) := by decide +kernel
theorem dX7_disk_10 : decode cX7_disk 10 = .ok (.aload_n 0, 1) := by decide +kernel
theorem dX7_disk_11 : decode cX7_disk 11 = .ok (.getfield 10, 3) := by decide +kernel
theorem dX7_disk_14 : decode cX7_disk 14 = .ok (.getfield 139, 3) := by decide +kernel
theorem dX7_disk_17 : decode cX7_disk 17 = .ok (.iload_n 1, 1) := by decide +kernel
theorem dX7_disk_18 : decode cX7_disk 18 = .ok (.sipush 1024, 3) := by decide +kernel
theorem dX7_disk_21 : decode cX7_disk 21 = .ok (.imul, 1) := by decide +kernel
theorem dX7_disk_22 : decode cX7_disk 22 = .ok (.iload_n 2, 1) := by decide +kernel
theorem dX7_disk_23 : decode cX7_disk 23 = .ok (.iadd, 1) := by decide +kernel
theorem dX7_disk_24 : decode cX7_disk 24 = .ok (.iconst 1, 1) := by decide +kernel
theorem dX7_disk_25 : decode cX7_disk 25 = .ok (.invokestatic 98, 3) := by decide +kernel
theorem dX7_disk_28 : decode cX7_disk 28 = .ok (.ireturn, 1) := by decide +kernel
theorem dX7_poke_0 : decode cX7_poke 0 = .ok (.iload_n 1, 1) := by decide +kernel
theorem dX7_poke_1 : decode cX7_poke 1 = .ok (.iload_n 2, 1) := by decide +kernel
theorem dX7_poke_2 : decode cX7_poke 2 = .ok (.invokestatic 135, 3) := by decide +kernel
theorem dX7_poke_5 : decode cX7_poke 5 = .ok (.ifCond .ne 5, 3) := by decide +kernel
theorem dX7_poke_8 : decode cX7_poke 8 = .ok (.iconst (-1), 1) := by decide +kernel
theorem dX7_poke_9 : decode cX7_poke 9 = .ok (.ireturn, 1) := by decide +kernel
theorem dX7_poke_10 : decode cX7_poke 10 = .ok (.iload_n 3, 1) := by decide +kernel
theorem dX7_poke_11 : decode cX7_poke 11 = .ok (.ifCond .lt 10, 3) := by decide +kernel
theorem dX7_poke_14 : decode cX7_poke 14 = .ok (.iload_n 3, 1) := by decide +kernel
theorem dX7_poke_15 : decode cX7_poke 15 = .ok (.sipush 255, 3) := by decide +kernel
theorem dX7_poke_18 : decode cX7_poke 18 = .ok (.if_icmp .le 6, 3) := by decide +kernel
theorem dX7_poke_21 : decode cX7_poke 21 = .ok (.bipush (-2), 2) := by decide +kernel
theorem dX7_poke_23 : decode cX7_poke 23 = .ok (.ireturn, 1) := by decide +kernel
theorem dX7_poke_24 : decode cX7_poke 24 = .ok (.aload_n 0, 1) := by decide +kernel
theorem dX7_poke_25 : decode cX7_poke 25 = .ok (.getfield 10, 3) := by decide +kernel
theorem dX7_poke_28 : decode cX7_poke 28 = .ok (.iload_n 1, 1) := by decide +kernel
theorem dX7_poke_29 : decode cX7_poke 29 = .ok (.sipush 1024, 3) := by decide +kernel
theorem dX7_poke_32 : decode cX7_poke 32 = .ok (.imul, 1) := by decide +kernel
theorem dX7_poke_33 : decode cX7_poke 33 = .ok (.iload_n 2, 1) := by decide +kernel
theorem dX7_poke_34 : decode cX7_poke 34 = .ok (.iadd, 1) := by decide +kernel
theorem dX7_poke_35 : decode cX7_poke 35 = .ok (.iload_n 3, 1) := by decide +kernel
theorem dX7_poke_36 : decode cX7_poke 36 = .ok (.invokevirtual 142, 3) := by decide +kernel
theorem dX7_poke_39 : decode cX7_poke 39 = .ok (.ireturn, 1) := by decide +kernel
theorem dX7_segment_0 : decode cX7_segment 0 = .ok (.aload_n 0, 1) := by decide +kernel
theorem dX7_segment_1 : decode cX7_segment 1 = .ok (.getfield 67, 3) := by decide +kernel
theorem dX7_segment_4 : decode cX7_segment 4 = .ok (.ifCond .eq 6, 3) := by decide +kernel
theorem dX7_segment_10 : decode cX7_segment 10 = .ok (.iload_n 1, 1) := by decide +kernel
theorem dX7_segment_11 : decode cX7_segment 11 = .ok (.invokestatic 146, 3) := by decide +kernel
theorem dX7_segment_14 : decode cX7_segment 14 = .ok (.ifCond .ne 5, 3) := by decide +kernel
theorem dX7_segment_17 : decode cX7_segment 17 = .ok (.iconst (-1), 1) := by decide +kernel
theorem dX7_segment_18 : decode cX7_segment 18 = .ok (.ireturn, 1) := by decide +kernel
theorem dX7_segment_19 : decode cX7_segment 19 = .ok (.iload_n 2, 1) := by decide +kernel
theorem dX7_segment_20 : decode cX7_segment 20 = .ok (.tableswitch 113 0 3 #[32, 41, 65, 89], 32) := by decide +kernel
theorem dX7_segment_52 : decode cX7_segment 52 = .ok (.aload_n 0, 1) := by decide +kernel
theorem dX7_segment_53 : decode cX7_segment 53 = .ok (.getfield 28, 3) := by decide +kernel
theorem dX7_segment_56 : decode cX7_segment 56 = .ok (.iload_n 1, 1) := by decide +kernel
theorem dX7_segment_57 : decode cX7_segment 57 = .ok (.invokevirtual 149, 3) := by decide +kernel
theorem dX7_segment_60 : decode cX7_segment 60 = .ok (.ireturn, 1) := by decide +kernel
theorem dX7_segment_61 : decode cX7_segment 61 = .ok (.aload_n 0, 1) := by decide +kernel
theorem dX7_segment_62 : decode cX7_segment 62 = .ok (.getfield 28, 3) := by decide +kernel
theorem dX7_segment_65 : decode cX7_segment 65 = .ok (.iload_n 1, 1) := by decide +kernel
theorem dX7_segment_66 : decode cX7_segment 66 = .ok (.invokevirtual 152, 3) := by decide +kernel
theorem dX7_segment_69 : decode cX7_segment 69 = .ok (.ifCond .eq 14, 3) := by decide +kernel
theorem dX7_segment_83 : decode cX7_segment 83 = .ok (.iconst 0, 1) := by decide +kernel
theorem dX7_segment_84 : decode cX7_segment 84 = .ok (.ireturn, 1) := by decide +kernel
theorem dX7_segment_85 : decode cX7_segment 85 = .ok (.aload_n 0, 1) := by decide +kernel
theorem dX7_segment_86 : decode cX7_segment 86 = .ok (.getfield 28, 3) := by decide +kernel
theorem dX7_segment_89 : decode cX7_segment 89 = .ok (.iload_n 1, 1) := by decide +kernel
theorem dX7_segment_90 : decode cX7_segment 90 = .ok (.invokevirtual 152, 3) := by decide +kernel
theorem dX7_segment_93 : decode cX7_segment 93 = .ok (.ifCond .eq 14, 3) := by decide +kernel
theorem dX7_segment_107 : decode cX7_segment 107 = .ok (.iconst 0, 1) := by decide +kernel
theorem dX7_segment_108 : decode cX7_segment 108 = .ok (.ireturn, 1) := by decide +kernel
theorem dX7_segment_109 : decode cX7_segment 109 = .ok (.aload_n 0, 1) := by decide +kernel
theorem dX7_segment_110 : decode cX7_segment 110 = .ok (.getfield 28, 3) := by decide +kernel
theorem dX7_segment_113 : decode cX7_segment 113 = .ok (.iload_n 1, 1) := by decide +kernel
theorem dX7_segment_114 : decode cX7_segment 114 = .ok (.invokevirtual 152, 3) := by decide +kernel
theorem dX7_segment_117 : decode cX7_segment 117 = .ok (.ifCond .eq 14, 3) := by decide +kernel
theorem dX7_segment_131 : decode cX7_segment 131 = .ok (.iconst 0, 1) := by decide +kernel
theorem dX7_segment_132 : decode cX7_segment 132 = .ok (.ireturn, 1) := by decide +kernel
theorem dX7_segment_133 : decode cX7_segment 133 = .ok (.bipush (-2), 2) := by decide +kernel
theorem dX7_segment_135 : decode cX7_segment 135 = .ok (.ireturn, 1) := by decide +kernel
theorem dX7_where_0 : decode cX7_where 0 = .ok (.aload_n 0, 1) := by decide +kernel
theorem dX7_where_1 : decode cX7_where 1 = .ok (.getfield 67, 3) := by decide +kernel
theorem dX7_where_4 : decode cX7_where 4 = .ok (.ifCond .eq 6, 3) := by decide +kernel
theorem dX7_where_10 : decode cX7_where 10 = .ok (.aload_n 0, 1) := by decide +kernel
theorem dX7_where_11 : decode cX7_where 11 = .ok (.getfield 19, 3) := by decide +kernel
theorem dX7_where_14 : decode cX7_where 14 = .ok (.iload_n 1, 1) := by decide +kernel
theorem dX7_where_15 : decode cX7_where 15 = .ok (.invokevirtual 85, 3) := by decide +kernel
theorem dX7_where_18 : decode cX7_where 18 = .ok (.ifCond .ne 5, 3) := by decide +kernel
theorem dX7_where_21 : decode cX7_where 21 = .ok (.iconst (-1), 1) := by decide +kernel
theorem dX7_where_22 : decode cX7_where 22 = .ok (.ireturn, 1) := by decide +kernel
theorem dX7_told_0 : decode cX7_told 0 = .ok (.iload_n 1, 1) := by decide +kernel
theorem dX7_told_1 : decode cX7_told 1 = .ok (.ifCond .lt 9, 3) := by decide +kernel
theorem dX7_told_4 : decode cX7_told 4 = .ok (.iload_n 1, 1) := by decide +kernel
theorem dX7_told_5 : decode cX7_told 5 = .ok (.bipush 9, 2) := by decide +kernel
theorem dX7_told_7 : decode cX7_told 7 = .ok (.if_icmp .le 6, 3) := by decide +kernel
theorem dX7_told_10 : decode cX7_told 10 = .ok (.bipush (-2), 2) := by decide +kernel
theorem dX7_told_12 : decode cX7_told 12 = .ok (.ireturn, 1) := by decide +kernel
theorem dX7_told_13 : decode cX7_told 13 = .ok (.iload_n 1, 1) := by decide +kernel
theorem dX7_told_14 : decode cX7_told 14 = .ok (.bipush 9, 2) := by decide +kernel
theorem dX7_told_16 : decode cX7_told 16 = .ok (.if_icmp .ne 16, 3) := by decide +kernel
theorem dX7_told_19 : decode cX7_told 19 = .ok (.aload_n 0, 1) := by decide +kernel
theorem dX7_told_20 : decode cX7_told 20 = .ok (.getfield 67, 3) := by decide +kernel
theorem dX7_told_23 : decode cX7_told 23 = .ok (.ifCond .eq 7, 3) := by decide +kernel
theorem dX7_told_30 : decode cX7_told 30 = .ok (.iconst 0, 1) := by decide +kernel
theorem dX7_told_31 : decode cX7_told 31 = .ok (.ireturn, 1) := by decide +kernel
theorem dX7_told_32 : decode cX7_told 32 = .ok (.iload_n 1, 1) := by decide +kernel
theorem dX7_told_33 : decode cX7_told 33 = .ok (.bipush 8, 2) := by decide +kernel
theorem dX7_told_35 : decode cX7_told 35 = .ok (.if_icmp .ne 11, 3) := by decide +kernel
theorem dX7_told_38 : decode cX7_told 38 = .ok (.aload_n 0, 1) := by decide +kernel
theorem dX7_told_39 : decode cX7_told 39 = .ok (.getfield 10, 3) := by decide +kernel
theorem dX7_told_42 : decode cX7_told 42 = .ok (.getfield 176, 3) := by decide +kernel
theorem dX7_told_45 : decode cX7_told 45 = .ok (.ireturn, 1) := by decide +kernel
theorem dX7_told_46 : decode cX7_told 46 = .ok (.aload_n 0, 1) := by decide +kernel
theorem dX7_told_47 : decode cX7_told 47 = .ok (.getfield 67, 3) := by decide +kernel
theorem dX7_told_50 : decode cX7_told 50 = .ok (.ifCond .eq 7, 3) := by decide +kernel
theorem dX7_told_57 : decode cX7_told 57 = .ok (.aload_n 0, 1) := by decide +kernel
theorem dX7_told_58 : decode cX7_told 58 = .ok (.iload_n 1, 1) := by decide +kernel
theorem dX7_told_59 : decode cX7_told 59 = .ok (.invokevirtual 179, 3) := by decide +kernel
theorem dX7_told_62 : decode cX7_told 62 = .ok (.ireturn, 1) := by decide +kernel
theorem dX7_toldWhileUp_0 : decode cX7_toldWhileUp 0 = .ok (.iload_n 1, 1) := by decide +kernel
theorem dX7_toldWhileUp_1 : decode cX7_toldWhileUp 1 = .ok (.tableswitch 99 0 6 #[43, 51, 59, 67, 75, 83, 91], 43) := by decide +kernel
theorem dX7_toldWhileUp_44 : decode cX7_toldWhileUp 44 = .ok (.aload_n 0, 1) := by decide +kernel
theorem dX7_toldWhileUp_45 : decode cX7_toldWhileUp 45 = .ok (.getfield 28, 3) := by decide +kernel
theorem dX7_toldWhileUp_48 : decode cX7_toldWhileUp 48 = .ok (.getfield 182, 3) := by decide +kernel
theorem dX7_toldWhileUp_51 : decode cX7_toldWhileUp 51 = .ok (.ireturn, 1) := by decide +kernel
theorem dX7_toldWhileUp_52 : decode cX7_toldWhileUp 52 = .ok (.aload_n 0, 1) := by decide +kernel
theorem dX7_toldWhileUp_53 : decode cX7_toldWhileUp 53 = .ok (.getfield 28, 3) := by decide +kernel
theorem dX7_toldWhileUp_56 : decode cX7_toldWhileUp 56 = .ok (.getfield 78, 3) := by decide +kernel
theorem dX7_toldWhileUp_59 : decode cX7_toldWhileUp 59 = .ok (.ireturn, 1) := by decide +kernel
theorem dX7_toldWhileUp_60 : decode cX7_toldWhileUp 60 = .ok (.aload_n 0, 1) := by decide +kernel
theorem dX7_toldWhileUp_61 : decode cX7_toldWhileUp 61 = .ok (.getfield 28, 3) := by decide +kernel
theorem dX7_toldWhileUp_64 : decode cX7_toldWhileUp 64 = .ok (.getfield 185, 3) := by decide +kernel
theorem dX7_toldWhileUp_67 : decode cX7_toldWhileUp 67 = .ok (.ireturn, 1) := by decide +kernel
theorem dX7_toldWhileUp_68 : decode cX7_toldWhileUp 68 = .ok (.aload_n 0, 1) := by decide +kernel
theorem dX7_toldWhileUp_69 : decode cX7_toldWhileUp 69 = .ok (.getfield 28, 3) := by decide +kernel
theorem dX7_toldWhileUp_72 : decode cX7_toldWhileUp 72 = .ok (.getfield 188, 3) := by decide +kernel
theorem dX7_toldWhileUp_75 : decode cX7_toldWhileUp 75 = .ok (.ireturn, 1) := by decide +kernel
theorem dX7_toldWhileUp_76 : decode cX7_toldWhileUp 76 = .ok (.aload_n 0, 1) := by decide +kernel
theorem dX7_toldWhileUp_77 : decode cX7_toldWhileUp 77 = .ok (.getfield 28, 3) := by decide +kernel
theorem dX7_toldWhileUp_80 : decode cX7_toldWhileUp 80 = .ok (.invokevirtual 191, 3) := by decide +kernel
theorem dX7_toldWhileUp_83 : decode cX7_toldWhileUp 83 = .ok (.ireturn, 1) := by decide +kernel
theorem dX7_toldWhileUp_84 : decode cX7_toldWhileUp 84 = .ok (.aload_n 0, 1) := by decide +kernel
theorem dX7_toldWhileUp_85 : decode cX7_toldWhileUp 85 = .ok (.getfield 19, 3) := by decide +kernel
theorem dX7_toldWhileUp_88 : decode cX7_toldWhileUp 88 = .ok (.getfield 194, 3) := by decide +kernel
theorem dX7_toldWhileUp_91 : decode cX7_toldWhileUp 91 = .ok (.ireturn, 1) := by decide +kernel
theorem dX7_toldWhileUp_92 : decode cX7_toldWhileUp 92 = .ok (.aload_n 0, 1) := by decide +kernel
theorem dX7_toldWhileUp_93 : decode cX7_toldWhileUp 93 = .ok (.getfield 28, 3) := by decide +kernel
theorem dX7_toldWhileUp_96 : decode cX7_toldWhileUp 96 = .ok (.invokevirtual 197, 3) := by decide +kernel
theorem dX7_toldWhileUp_99 : decode cX7_toldWhileUp 99 = .ok (.ireturn, 1) := by decide +kernel
theorem dX7_toldWhileUp_100 : decode cX7_toldWhileUp 100 = .ok (.aload_n 0, 1) := by decide +kernel
theorem dX7_toldWhileUp_101 : decode cX7_toldWhileUp 101 = .ok (.getfield 46, 3) := by decide +kernel
theorem dX7_toldWhileUp_104 : decode cX7_toldWhileUp 104 = .ok (.getfield 115, 3) := by decide +kernel
theorem dX7_toldWhileUp_107 : decode cX7_toldWhileUp 107 = .ok (.ireturn, 1) := by decide +kernel
theorem dX7_isKey_0 : decode cX7_isKey 0 = .ok (.iload_n 0, 1) := by decide +kernel
theorem dX7_isKey_1 : decode cX7_isKey 1 = .ok (.ifCond .lt 14, 3) := by decide +kernel
theorem dX7_isKey_4 : decode cX7_isKey 4 = .ok (.iload_n 0, 1) := by decide +kernel
theorem dX7_isKey_5 : decode cX7_isKey 5 = .ok (.sipush 300, 3) := by decide +kernel
theorem dX7_isKey_8 : decode cX7_isKey 8 = .ok (.if_icmp .ge 7, 3) := by decide +kernel
theorem dX7_isKey_11 : decode cX7_isKey 11 = .ok (.iconst 1, 1) := by decide +kernel
theorem dX7_isKey_12 : decode cX7_isKey 12 = .ok (.goto 4, 3) := by decide +kernel
theorem dX7_isKey_15 : decode cX7_isKey 15 = .ok (.iconst 0, 1) := by decide +kernel
theorem dX7_isKey_16 : decode cX7_isKey 16 = .ok (.ireturn, 1) := by decide +kernel
theorem dX7_isOfLog_0 : decode cX7_isOfLog 0 = .ok (.iload_n 0, 1) := by decide +kernel
theorem dX7_isOfLog_1 : decode cX7_isOfLog 1 = .ok (.bipush 8, 2) := by decide +kernel
theorem dX7_isOfLog_3 : decode cX7_isOfLog 3 = .ok (.if_icmp .lt 13, 3) := by decide +kernel
theorem dX7_isOfLog_6 : decode cX7_isOfLog 6 = .ok (.iload_n 0, 1) := by decide +kernel
theorem dX7_isOfLog_7 : decode cX7_isOfLog 7 = .ok (.bipush 64, 2) := by decide +kernel
theorem dX7_isOfLog_9 : decode cX7_isOfLog 9 = .ok (.if_icmp .ge 7, 3) := by decide +kernel
theorem dX7_isOfLog_12 : decode cX7_isOfLog 12 = .ok (.iconst 1, 1) := by decide +kernel
theorem dX7_isOfLog_13 : decode cX7_isOfLog 13 = .ok (.goto 4, 3) := by decide +kernel
theorem dX7_isOfLog_16 : decode cX7_isOfLog 16 = .ok (.iconst 0, 1) := by decide +kernel
theorem dX7_isOfLog_17 : decode cX7_isOfLog 17 = .ok (.ireturn, 1) := by decide +kernel
theorem dX7_isOctet_0 : decode cX7_isOctet 0 = .ok (.iload_n 0, 1) := by decide +kernel
theorem dX7_isOctet_1 : decode cX7_isOctet 1 = .ok (.ifCond .lt 24, 3) := by decide +kernel
theorem dX7_isOctet_4 : decode cX7_isOctet 4 = .ok (.iload_n 0, 1) := by decide +kernel
theorem dX7_isOctet_5 : decode cX7_isOctet 5 = .ok (.bipush 64, 2) := by decide +kernel
theorem dX7_isOctet_7 : decode cX7_isOctet 7 = .ok (.if_icmp .ge 18, 3) := by decide +kernel
theorem dX7_isOctet_10 : decode cX7_isOctet 10 = .ok (.iload_n 1, 1) := by decide +kernel
theorem dX7_isOctet_11 : decode cX7_isOctet 11 = .ok (.ifCond .lt 14, 3) := by decide +kernel
theorem dX7_isOctet_14 : decode cX7_isOctet 14 = .ok (.iload_n 1, 1) := by decide +kernel
theorem dX7_isOctet_15 : decode cX7_isOctet 15 = .ok (.sipush 1024, 3) := by decide +kernel
theorem dX7_isOctet_18 : decode cX7_isOctet 18 = .ok (.if_icmp .ge 7, 3) := by decide +kernel
theorem dX7_isOctet_21 : decode cX7_isOctet 21 = .ok (.iconst 1, 1) := by decide +kernel
theorem dX7_isOctet_22 : decode cX7_isOctet 22 = .ok (.goto 4, 3) := by decide +kernel
theorem dX7_isOctet_25 : decode cX7_isOctet 25 = .ok (.iconst 0, 1) := by decide +kernel
theorem dX7_isOctet_26 : decode cX7_isOctet 26 = .ok (.ireturn, 1) := by decide +kernel
theorem dX8_init_0 : decode cX8_init 0 = .ok (.aload_n 0, 1) := by decide +kernel
theorem dX8_init_1 : decode cX8_init 1 = .ok (.invokespecial 1, 3) := by decide +kernel
theorem dX8_init_4 : decode cX8_init 4 = .ok (.aload_n 0, 1) := by decide +kernel
theorem dX8_init_5 : decode cX8_init 5 = .ok (.ldc 7, 2) := by decide +kernel
theorem dX8_init_7 : decode cX8_init 7 = .ok (.newarray .byte, 2) := by decide +kernel
theorem dX8_init_9 : decode cX8_init 9 = .ok (.putfield 8, 3) := by decide +kernel
theorem dX8_init_12 : decode cX8_init 12 = .ok (.aload_n 0, 1) := by decide +kernel
theorem dX8_init_13 : decode cX8_init 13 = .ok (.ldc 7, 2) := by decide +kernel
theorem dX8_init_15 : decode cX8_init 15 = .ok (.newarray .byte, 2) := by decide +kernel
theorem dX8_init_17 : decode cX8_init 17 = .ok (.putfield 14, 3) := by decide +kernel
theorem dX8_init_20 : decode cX8_init 20 = .ok (.aload_n 0, 1) := by decide +kernel
theorem dX8_init_21 : decode cX8_init 21 = .ok (.ldc 7, 2) := by decide +kernel
theorem dX8_init_23 : decode cX8_init 23 = .ok (.newarray .boolean, 2) := by decide +kernel
theorem dX8_init_25 : decode cX8_init 25 = .ok (.putfield 17, 3) := by decide +kernel
theorem dX8_init_28 : decode cX8_init 28 = .ok (.aload_n 0, 1) := by decide +kernel
theorem dX8_init_29 : decode cX8_init 29 = .ok (.bipush 64, 2) := by decide +kernel
theorem dX8_init_31 : decode cX8_init 31 = .ok (.newarray .int, 2) := by decide +kernel
theorem dX8_init_33 : decode cX8_init 33 = .ok (.putfield 21, 3) := by decide +kernel
theorem dX8_init_36 : decode cX8_init 36 = .ok (.aload_n 0, 1) := by decide +kernel
theorem dX8_init_37 : decode cX8_init 37 = .ok (.iconst 1, 1) := by decide +kernel
theorem dX8_init_38 : decode cX8_init 38 = .ok (.putfield 25, 3) := by decide +kernel
theorem dX8_init_41 : decode cX8_init 41 = .ok (.aload_n 0, 1) := by decide +kernel
theorem dX8_init_42 : decode cX8_init 42 = .ok (.sipush 300, 3) := by decide +kernel
theorem dX8_init_45 : decode cX8_init 45 = .ok (.newarray .int, 2) := by decide +kernel
theorem dX8_init_47 : decode cX8_init 47 = .ok (.putfield 29, 3) := by decide +kernel
theorem dX8_init_50 : decode cX8_init 50 = .ok (.aload_n 0, 1) := by decide +kernel
theorem dX8_init_51 : decode cX8_init 51 = .ok (.sipush 300, 3) := by decide +kernel
theorem dX8_init_54 : decode cX8_init 54 = .ok (.newarray .int, 2) := by decide +kernel
theorem dX8_init_56 : decode cX8_init 56 = .ok (.putfield 32, 3) := by decide +kernel
theorem dX8_init_59 : decode cX8_init 59 = .ok (.aload_n 0, 1) := by decide +kernel
theorem dX8_init_60 : decode cX8_init 60 = .ok (.sipush 128, 3) := by decide +kernel
theorem dX8_init_63 : decode cX8_init 63 = .ok (.newarray .int, 2) := by decide +kernel
theorem dX8_init_65 : decode cX8_init 65 = .ok (.putfield 35, 3) := by decide +kernel
theorem dX8_init_68 : decode cX8_init 68 = .ok (.aload_n 0, 1) := by decide +kernel
theorem dX8_init_69 : decode cX8_init 69 = .ok (.sipush 128, 3) := by decide +kernel
theorem dX8_init_72 : decode cX8_init 72 = .ok (.newarray .int, 2) := by decide +kernel
theorem dX8_init_74 : decode cX8_init 74 = .ok (.putfield 38, 3) := by decide +kernel
theorem dX8_init_77 : decode cX8_init 77 = .ok (.aload_n 0, 1) := by decide +kernel
theorem dX8_init_78 : decode cX8_init 78 = .ok (.sipush 128, 3) := by decide +kernel
theorem dX8_init_81 : decode cX8_init 81 = .ok (.newarray .int, 2) := by decide +kernel
theorem dX8_init_83 : decode cX8_init 83 = .ok (.putfield 41, 3) := by decide +kernel
theorem dX8_init_86 : decode cX8_init 86 = .ok (.aload_n 0, 1) := by decide +kernel
theorem dX8_init_87 : decode cX8_init 87 = .ok (.bipush 100, 2) := by decide +kernel
theorem dX8_init_89 : decode cX8_init 89 = .ok (.newarray .byte, 2) := by decide +kernel
theorem dX8_init_91 : decode cX8_init 91 = .ok (.putfield 44, 3) := by decide +kernel
theorem dX8_init_94 : decode cX8_init 94 = .ok (.aload_n 0, 1) := by decide +kernel
theorem dX8_init_95 : decode cX8_init 95 = .ok (.sipush 4096, 3) := by decide +kernel
theorem dX8_init_98 : decode cX8_init 98 = .ok (.newarray .byte, 2) := by decide +kernel
theorem dX8_init_100 : decode cX8_init 100 = .ok (.putfield 47, 3) := by decide +kernel
theorem dX8_init_103 : decode cX8_init 103 = .ok (.aload_n 0, 1) := by decide +kernel
theorem dX8_init_104 : decode cX8_init 104 = .ok (.bipush 64, 2) := by decide +kernel
theorem dX8_init_106 : decode cX8_init 106 = .ok (.newarray .int, 2) := by decide +kernel
theorem dX8_init_108 : decode cX8_init 108 = .ok (.putfield 50, 3) := by decide +kernel
theorem dX8_init_111 : decode cX8_init 111 = .ok (.aload_n 0, 1) := by decide +kernel
theorem dX8_init_112 : decode cX8_init 112 = .ok (.bipush 100, 2) := by decide +kernel
theorem dX8_init_114 : decode cX8_init 114 = .ok (.newarray .byte, 2) := by decide +kernel
theorem dX8_init_116 : decode cX8_init 116 = .ok (.putfield 53, 3) := by decide +kernel
theorem dX8_init_119 : decode cX8_init 119 = .ok (.aload_n 0, 1) := by decide +kernel
theorem dX8_init_120 : decode cX8_init 120 = .ok (.bipush 64, 2) := by decide +kernel
theorem dX8_init_122 : decode cX8_init 122 = .ok (.newarray .boolean, 2) := by decide +kernel
theorem dX8_init_124 : decode cX8_init 124 = .ok (.putfield 56, 3) := by decide +kernel
theorem dX8_init_127 : decode cX8_init 127 = .ok (.aload_n 0, 1) := by decide +kernel
theorem dX8_init_128 : decode cX8_init 128 = .ok (.sipush 300, 3) := by decide +kernel
theorem dX8_init_131 : decode cX8_init 131 = .ok (.newarray .int, 2) := by decide +kernel
theorem dX8_init_133 : decode cX8_init 133 = .ok (.putfield 59, 3) := by decide +kernel
theorem dX8_init_136 : decode cX8_init 136 = .ok (.aload_n 0, 1) := by decide +kernel
theorem dX8_init_137 : decode cX8_init 137 = .ok (.iconst 0, 1) := by decide +kernel
theorem dX8_init_138 : decode cX8_init 138 = .ok (.putfield 62, 3) := by decide +kernel
theorem dX8_init_141 : decode cX8_init 141 = .ok (.return_, 1) := by decide +kernel
theorem dX8_in_0 : decode cX8_in 0 = .ok (.iload_n 0, 1) := by decide +kernel
theorem dX8_in_1 : decode cX8_in 1 = .ok (.iload_n 1, 1) := by decide +kernel
theorem dX8_in_2 : decode cX8_in 2 = .ok (.if_icmp .lt 12, 3) := by decide +kernel
theorem dX8_in_5 : decode cX8_in 5 = .ok (.iload_n 0, 1) := by decide +kernel
theorem dX8_in_6 : decode cX8_in 6 = .ok (.iload_n 2, 1) := by decide +kernel
theorem dX8_in_7 : decode cX8_in 7 = .ok (.if_icmp .gt 7, 3) := by decide +kernel
theorem dX8_in_10 : decode cX8_in 10 = .ok (.iconst 1, 1) := by decide +kernel
theorem dX8_in_11 : decode cX8_in 11 = .ok (.goto 4, 3) := by decide +kernel
theorem dX8_in_14 : decode cX8_in 14 = .ok (.iconst 0, 1) := by decide +kernel
theorem dX8_in_15 : decode cX8_in 15 = .ok (.ireturn, 1) := by decide +kernel
theorem dX8_sum_0 : decode cX8_sum 0 = .ok (.iconst 0, 1) := by decide +kernel
theorem dX8_sum_1 : decode cX8_sum 1 = .ok (.istore_n 3, 1) := by decide +kernel
theorem dX8_sum_2 : decode cX8_sum 2 = .ok (.iconst 0, 1) := by decide +kernel
theorem dX8_sum_3 : decode cX8_sum 3 = .ok (.istore 4, 2) := by decide +kernel
theorem dX8_sum_5 : decode cX8_sum 5 = .ok (.iload 4, 2) := by decide +kernel
theorem dX8_sum_7 : decode cX8_sum 7 = .ok (.iload_n 2, 1) := by decide +kernel
theorem dX8_sum_8 : decode cX8_sum 8 = .ok (.if_icmp .ge 37, 3) := by decide +kernel
theorem dX8_sum_11 : decode cX8_sum 11 = .ok (.iload_n 3, 1) := by decide +kernel
theorem dX8_sum_12 : decode cX8_sum 12 = .ok (.aload_n 0, 1) := by decide +kernel
theorem dX8_sum_13 : decode cX8_sum 13 = .ok (.iload_n 1, 1) := by decide +kernel
theorem dX8_sum_14 : decode cX8_sum 14 = .ok (.iload 4, 2) := by decide +kernel
theorem dX8_sum_16 : decode cX8_sum 16 = .ok (.iadd, 1) := by decide +kernel
theorem dX8_sum_17 : decode cX8_sum 17 = .ok (.baload, 1) := by decide +kernel
theorem dX8_sum_18 : decode cX8_sum 18 = .ok (.sipush 255, 3) := by decide +kernel
theorem dX8_sum_21 : decode cX8_sum 21 = .ok (.iand, 1) := by decide +kernel
theorem dX8_sum_22 : decode cX8_sum 22 = .ok (.ixor, 1) := by decide +kernel
theorem dX8_sum_23 : decode cX8_sum 23 = .ok (.istore 5, 2) := by decide +kernel
theorem dX8_sum_25 : decode cX8_sum 25 = .ok (.iload 5, 2) := by decide +kernel
theorem dX8_sum_27 : decode cX8_sum 27 = .ok (.iconst 5, 1) := by decide +kernel
theorem dX8_sum_28 : decode cX8_sum 28 = .ok (.ishl, 1) := by decide +kernel
theorem dX8_sum_29 : decode cX8_sum 29 = .ok (.iload 5, 2) := by decide +kernel
theorem dX8_sum_31 : decode cX8_sum 31 = .ok (.bipush 27, 2) := by decide +kernel
theorem dX8_sum_33 : decode cX8_sum 33 = .ok (.iushr, 1) := by decide +kernel
theorem dX8_sum_34 : decode cX8_sum 34 = .ok (.ior, 1) := by decide +kernel
theorem dX8_sum_35 : decode cX8_sum 35 = .ok (.ldc 68, 2) := by decide +kernel
theorem dX8_sum_37 : decode cX8_sum 37 = .ok (.imul, 1) := by decide +kernel
theorem dX8_sum_38 : decode cX8_sum 38 = .ok (.istore_n 3, 1) := by decide +kernel
theorem dX8_sum_39 : decode cX8_sum 39 = .ok (.iinc 4 1, 3) := by decide +kernel
theorem dX8_sum_42 : decode cX8_sum 42 = .ok (.goto (-37), 3) := by decide +kernel
theorem dX8_sum_45 : decode cX8_sum 45 = .ok (.iload_n 3, 1) := by decide +kernel
theorem dX8_sum_46 : decode cX8_sum 46 = .ok (.ireturn, 1) := by decide +kernel
theorem dX8_number_0 : decode cX8_number 0 = .ok (.iconst 0, 1) := by decide +kernel
theorem dX8_number_1 : decode cX8_number 1 = .ok (.istore_n 3, 1) := by decide +kernel
theorem dX8_number_2 : decode cX8_number 2 = .ok (.iconst 0, 1) := by decide +kernel
theorem dX8_number_3 : decode cX8_number 3 = .ok (.istore 4, 2) := by decide +kernel
theorem dX8_number_5 : decode cX8_number 5 = .ok (.iload 4, 2) := by decide +kernel
theorem dX8_number_7 : decode cX8_number 7 = .ok (.iload_n 2, 1) := by decide +kernel
theorem dX8_number_8 : decode cX8_number 8 = .ok (.if_icmp .ge 25, 3) := by decide +kernel
theorem dX8_number_11 : decode cX8_number 11 = .ok (.iload_n 3, 1) := by decide +kernel
theorem dX8_number_12 : decode cX8_number 12 = .ok (.bipush 8, 2) := by decide +kernel
theorem dX8_number_14 : decode cX8_number 14 = .ok (.ishl, 1) := by decide +kernel
theorem dX8_number_15 : decode cX8_number 15 = .ok (.aload_n 0, 1) := by decide +kernel
theorem dX8_number_16 : decode cX8_number 16 = .ok (.iload_n 1, 1) := by decide +kernel
theorem dX8_number_17 : decode cX8_number 17 = .ok (.iload 4, 2) := by decide +kernel
theorem dX8_number_19 : decode cX8_number 19 = .ok (.iadd, 1) := by decide +kernel
theorem dX8_number_20 : decode cX8_number 20 = .ok (.baload, 1) := by decide +kernel
theorem dX8_number_21 : decode cX8_number 21 = .ok (.sipush 255, 3) := by decide +kernel
theorem dX8_number_24 : decode cX8_number 24 = .ok (.iand, 1) := by decide +kernel
theorem dX8_number_25 : decode cX8_number 25 = .ok (.ior, 1) := by decide +kernel
theorem dX8_number_26 : decode cX8_number 26 = .ok (.istore_n 3, 1) := by decide +kernel
theorem dX8_number_27 : decode cX8_number 27 = .ok (.iinc 4 1, 3) := by decide +kernel
theorem dX8_number_30 : decode cX8_number 30 = .ok (.goto (-25), 3) := by decide +kernel
theorem dX8_number_33 : decode cX8_number 33 = .ok (.iload_n 3, 1) := by decide +kernel
theorem dX8_number_34 : decode cX8_number 34 = .ok (.ireturn, 1) := by decide +kernel
theorem dX8_octets_0 : decode cX8_octets 0 = .ok (.iload_n 2, 1) := by decide +kernel
theorem dX8_octets_1 : decode cX8_octets 1 = .ok (.iconst 1, 1) := by decide +kernel
theorem dX8_octets_2 : decode cX8_octets 2 = .ok (.isub, 1) := by decide +kernel
theorem dX8_octets_3 : decode cX8_octets 3 = .ok (.istore_n 3, 1) := by decide +kernel
theorem dX8_octets_4 : decode cX8_octets 4 = .ok (.iload_n 3, 1) := by decide +kernel
theorem dX8_octets_5 : decode cX8_octets 5 = .ok (.ifCond .lt 35, 3) := by decide +kernel
theorem dX8_octets_8 : decode cX8_octets 8 = .ok (.aload_n 0, 1) := by decide +kernel
theorem dX8_octets_9 : decode cX8_octets 9 = .ok (.getfield 47, 3) := by decide +kernel
theorem dX8_octets_12 : decode cX8_octets 12 = .ok (.aload_n 0, 1) := by decide +kernel
theorem dX8_octets_13 : decode cX8_octets 13 = .ok (.getfield 69, 3) := by decide +kernel
theorem dX8_octets_16 : decode cX8_octets 16 = .ok (.iload_n 1, 1) := by decide +kernel
theorem dX8_octets_17 : decode cX8_octets 17 = .ok (.bipush 8, 2) := by decide +kernel
theorem dX8_octets_19 : decode cX8_octets 19 = .ok (.iload_n 3, 1) := by decide +kernel
theorem dX8_octets_20 : decode cX8_octets 20 = .ok (.imul, 1) := by decide +kernel
theorem dX8_octets_21 : decode cX8_octets 21 = .ok (.ishr, 1) := by decide +kernel
theorem dX8_octets_22 : decode cX8_octets 22 = .ok (.i2b, 1) := by decide +kernel
theorem dX8_octets_23 : decode cX8_octets 23 = .ok (.bastore, 1) := by decide +kernel
theorem dX8_octets_24 : decode cX8_octets 24 = .ok (.aload_n 0, 1) := by decide +kernel
theorem dX8_octets_25 : decode cX8_octets 25 = .ok (.dup, 1) := by decide +kernel
theorem dX8_octets_26 : decode cX8_octets 26 = .ok (.getfield 69, 3) := by decide +kernel
theorem dX8_octets_29 : decode cX8_octets 29 = .ok (.iconst 1, 1) := by decide +kernel
theorem dX8_octets_30 : decode cX8_octets 30 = .ok (.iadd, 1) := by decide +kernel
theorem dX8_octets_31 : decode cX8_octets 31 = .ok (.putfield 69, 3) := by decide +kernel
theorem dX8_octets_34 : decode cX8_octets 34 = .ok (.iinc 3 (-1), 3) := by decide +kernel
theorem dX8_octets_37 : decode cX8_octets 37 = .ok (.goto (-33), 3) := by decide +kernel
theorem dX8_octets_40 : decode cX8_octets 40 = .ok (.return_, 1) := by decide +kernel
theorem dX8_at_0 : decode cX8_at 0 = .ok (.sipush 1024, 3) := by decide +kernel
theorem dX8_at_3 : decode cX8_at 3 = .ok (.iload_n 0, 1) := by decide +kernel
theorem dX8_at_4 : decode cX8_at 4 = .ok (.imul, 1) := by decide +kernel
theorem dX8_at_5 : decode cX8_at 5 = .ok (.iload_n 1, 1) := by decide +kernel
theorem dX8_at_6 : decode cX8_at 6 = .ok (.iadd, 1) := by decide +kernel
theorem dX8_at_7 : decode cX8_at 7 = .ok (.ireturn, 1) := by decide +kernel
theorem dX8_frees_0 : decode cX8_frees 0 = .ok (.iconst 0, 1) := by decide +kernel
theorem dX8_frees_1 : decode cX8_frees 1 = .ok (.istore_n 1, 1) := by decide +kernel
theorem dX8_frees_2 : decode cX8_frees 2 = .ok (.bipush 8, 2) := by decide +kernel
theorem dX8_frees_4 : decode cX8_frees 4 = .ok (.istore_n 2, 1) := by decide +kernel
theorem dX8_frees_5 : decode cX8_frees 5 = .ok (.iload_n 2, 1) := by decide +kernel
theorem dX8_frees_6 : decode cX8_frees 6 = .ok (.bipush 64, 2) := by decide +kernel
theorem dX8_frees_8 : decode cX8_frees 8 = .ok (.if_icmp .ge 26, 3) := by decide +kernel
theorem dX8_frees_11 : decode cX8_frees 11 = .ok (.iload_n 1, 1) := by decide +kernel
theorem dX8_frees_12 : decode cX8_frees 12 = .ok (.aload_n 0, 1) := by decide +kernel
theorem dX8_frees_13 : decode cX8_frees 13 = .ok (.getfield 21, 3) := by decide +kernel
theorem dX8_frees_16 : decode cX8_frees 16 = .ok (.iload_n 2, 1) := by decide +kernel
theorem dX8_frees_17 : decode cX8_frees 17 = .ok (.iaload, 1) := by decide +kernel
theorem dX8_frees_18 : decode cX8_frees 18 = .ok (.ifCond .ne 7, 3) := by decide +kernel
theorem dX8_frees_21 : decode cX8_frees 21 = .ok (.iconst 1, 1) := by decide +kernel
theorem dX8_frees_22 : decode cX8_frees 22 = .ok (.goto 4, 3) := by decide +kernel
theorem dX8_frees_26 : decode cX8_frees 26 = .ok (.iadd, 1) := by decide +kernel
theorem dX8_frees_27 : decode cX8_frees 27 = .ok (.istore_n 1, 1) := by decide +kernel
theorem dX8_frees_28 : decode cX8_frees 28 = .ok (.iinc 2 1, 3) := by decide +kernel
theorem dX8_frees_31 : decode cX8_frees 31 = .ok (.goto (-26), 3) := by decide +kernel
theorem dX8_frees_34 : decode cX8_frees 34 = .ok (.iload_n 1, 1) := by decide +kernel
theorem dX8_frees_35 : decode cX8_frees 35 = .ok (.ireturn, 1) := by decide +kernel
theorem dX8_came_0 : decode cX8_came 0 = .ok (.aload_n 0, 1) := by decide +kernel
theorem dX8_came_1 : decode cX8_came 1 = .ok (.getfield 104, 3) := by decide +kernel
theorem dX8_came_4 : decode cX8_came 4 = .ok (.ifCond .le 31, 3) := by decide +kernel
theorem dX8_came_7 : decode cX8_came 7 = .ok (.aload_n 0, 1) := by decide +kernel
theorem dX8_came_8 : decode cX8_came 8 = .ok (.getfield 35, 3) := by decide +kernel
theorem dX8_came_11 : decode cX8_came 11 = .ok (.aload_n 0, 1) := by decide +kernel
theorem dX8_came_12 : decode cX8_came 12 = .ok (.getfield 104, 3) := by decide +kernel
theorem dX8_came_15 : decode cX8_came 15 = .ok (.iconst 1, 1) := by decide +kernel
theorem dX8_came_16 : decode cX8_came 16 = .ok (.isub, 1) := by decide +kernel
theorem dX8_came_17 : decode cX8_came 17 = .ok (.iaload, 1) := by decide +kernel
theorem dX8_came_18 : decode cX8_came 18 = .ok (.iload_n 1, 1) := by decide +kernel
theorem dX8_came_19 : decode cX8_came 19 = .ok (.if_icmp .ne 16, 3) := by decide +kernel
theorem dX8_came_22 : decode cX8_came 22 = .ok (.aload_n 0, 1) := by decide +kernel
theorem dX8_came_23 : decode cX8_came 23 = .ok (.getfield 41, 3) := by decide +kernel
theorem dX8_came_26 : decode cX8_came 26 = .ok (.aload_n 0, 1) := by decide +kernel
theorem dX8_came_27 : decode cX8_came 27 = .ok (.getfield 104, 3) := by decide +kernel
theorem dX8_came_30 : decode cX8_came 30 = .ok (.iconst 1, 1) := by decide +kernel
theorem dX8_came_31 : decode cX8_came 31 = .ok (.isub, 1) := by decide +kernel
theorem dX8_came_32 : decode cX8_came 32 = .ok (.iload_n 3, 1) := by decide +kernel
theorem dX8_came_33 : decode cX8_came 33 = .ok (.iastore, 1) := by decide +kernel
theorem dX8_came_34 : decode cX8_came 34 = .ok (.return_, 1) := by decide +kernel
theorem dX8_came_35 : decode cX8_came 35 = .ok (.aload_n 0, 1) := by decide +kernel
theorem dX8_came_36 : decode cX8_came 36 = .ok (.getfield 35, 3) := by decide +kernel
theorem dX8_came_39 : decode cX8_came 39 = .ok (.aload_n 0, 1) := by decide +kernel
theorem dX8_came_40 : decode cX8_came 40 = .ok (.getfield 104, 3) := by decide +kernel
theorem dX8_came_43 : decode cX8_came 43 = .ok (.iload_n 1, 1) := by decide +kernel
theorem dX8_came_44 : decode cX8_came 44 = .ok (.iastore, 1) := by decide +kernel
theorem dX8_came_45 : decode cX8_came 45 = .ok (.aload_n 0, 1) := by decide +kernel
theorem dX8_came_46 : decode cX8_came 46 = .ok (.getfield 38, 3) := by decide +kernel
theorem dX8_came_49 : decode cX8_came 49 = .ok (.aload_n 0, 1) := by decide +kernel
theorem dX8_came_50 : decode cX8_came 50 = .ok (.getfield 104, 3) := by decide +kernel
theorem dX8_came_53 : decode cX8_came 53 = .ok (.iload_n 2, 1) := by decide +kernel
theorem dX8_came_54 : decode cX8_came 54 = .ok (.iastore, 1) := by decide +kernel
theorem dX8_came_55 : decode cX8_came 55 = .ok (.aload_n 0, 1) := by decide +kernel
theorem dX8_came_56 : decode cX8_came 56 = .ok (.getfield 41, 3) := by decide +kernel
theorem dX8_came_59 : decode cX8_came 59 = .ok (.aload_n 0, 1) := by decide +kernel
theorem dX8_came_60 : decode cX8_came 60 = .ok (.getfield 104, 3) := by decide +kernel
theorem dX8_came_63 : decode cX8_came 63 = .ok (.iload_n 3, 1) := by decide +kernel
theorem dX8_came_64 : decode cX8_came 64 = .ok (.iastore, 1) := by decide +kernel
theorem dX8_came_65 : decode cX8_came 65 = .ok (.aload_n 0, 1) := by decide +kernel
theorem dX8_came_66 : decode cX8_came 66 = .ok (.dup, 1) := by decide +kernel
theorem dX8_came_67 : decode cX8_came 67 = .ok (.getfield 104, 3) := by decide +kernel
theorem dX8_came_70 : decode cX8_came 70 = .ok (.iconst 1, 1) := by decide +kernel
theorem dX8_came_71 : decode cX8_came 71 = .ok (.iadd, 1) := by decide +kernel
theorem dX8_came_72 : decode cX8_came 72 = .ok (.putfield 104, 3) := by decide +kernel
theorem dX8_came_75 : decode cX8_came 75 = .ok (.return_, 1) := by decide +kernel
theorem dX8_openNext_0 : decode cX8_openNext 0 = .ok (.bipush 8, 2) := by decide +kernel
theorem dX8_openNext_2 : decode cX8_openNext 2 = .ok (.istore_n 1, 1) := by decide +kernel
theorem dX8_openNext_3 : decode cX8_openNext 3 = .ok (.aload_n 0, 1) := by decide +kernel
theorem dX8_openNext_4 : decode cX8_openNext 4 = .ok (.getfield 21, 3) := by decide +kernel
theorem dX8_openNext_7 : decode cX8_openNext 7 = .ok (.iload_n 1, 1) := by decide +kernel
theorem dX8_openNext_8 : decode cX8_openNext 8 = .ok (.iaload, 1) := by decide +kernel
theorem dX8_openNext_9 : decode cX8_openNext 9 = .ok (.ifCond .eq 9, 3) := by decide +kernel
theorem dX8_openNext_18 : decode cX8_openNext 18 = .ok (.aload_n 0, 1) := by decide +kernel
theorem dX8_openNext_19 : decode cX8_openNext 19 = .ok (.getfield 87, 3) := by decide +kernel
theorem dX8_openNext_22 : decode cX8_openNext 22 = .ok (.ifCond .le 13, 3) := by decide +kernel
theorem dX8_openNext_35 : decode cX8_openNext 35 = .ok (.aload_n 0, 1) := by decide +kernel
theorem dX8_openNext_36 : decode cX8_openNext 36 = .ok (.getfield 21, 3) := by decide +kernel
theorem dX8_openNext_39 : decode cX8_openNext 39 = .ok (.iload_n 1, 1) := by decide +kernel
theorem dX8_openNext_40 : decode cX8_openNext 40 = .ok (.iconst 2, 1) := by decide +kernel
theorem dX8_openNext_41 : decode cX8_openNext 41 = .ok (.iastore, 1) := by decide +kernel
theorem dX8_openNext_42 : decode cX8_openNext 42 = .ok (.aload_n 0, 1) := by decide +kernel
theorem dX8_openNext_43 : decode cX8_openNext 43 = .ok (.iload_n 1, 1) := by decide +kernel
theorem dX8_openNext_44 : decode cX8_openNext 44 = .ok (.putfield 87, 3) := by decide +kernel
theorem dX8_openNext_47 : decode cX8_openNext 47 = .ok (.aload_n 0, 1) := by decide +kernel
theorem dX8_openNext_48 : decode cX8_openNext 48 = .ok (.dup, 1) := by decide +kernel
theorem dX8_openNext_49 : decode cX8_openNext 49 = .ok (.getfield 107, 3) := by decide +kernel
theorem dX8_openNext_52 : decode cX8_openNext 52 = .ok (.iconst 1, 1) := by decide +kernel
theorem dX8_openNext_53 : decode cX8_openNext 53 = .ok (.iadd, 1) := by decide +kernel
theorem dX8_openNext_54 : decode cX8_openNext 54 = .ok (.putfield 107, 3) := by decide +kernel
theorem dX8_openNext_57 : decode cX8_openNext 57 = .ok (.iconst 0, 1) := by decide +kernel
theorem dX8_openNext_58 : decode cX8_openNext 58 = .ok (.istore_n 2, 1) := by decide +kernel
theorem dX8_openNext_59 : decode cX8_openNext 59 = .ok (.iload_n 2, 1) := by decide +kernel
theorem dX8_openNext_60 : decode cX8_openNext 60 = .ok (.sipush 1024, 3) := by decide +kernel
theorem dX8_openNext_63 : decode cX8_openNext 63 = .ok (.if_icmp .ge 20, 3) := by decide +kernel
theorem dX8_openNext_66 : decode cX8_openNext 66 = .ok (.aload_n 0, 1) := by decide +kernel
theorem dX8_openNext_67 : decode cX8_openNext 67 = .ok (.getfield 14, 3) := by decide +kernel
theorem dX8_openNext_70 : decode cX8_openNext 70 = .ok (.iload_n 1, 1) := by decide +kernel
theorem dX8_openNext_71 : decode cX8_openNext 71 = .ok (.iload_n 2, 1) := by decide +kernel
theorem dX8_openNext_72 : decode cX8_openNext 72 = .ok (.invokestatic 72, 3) := by decide +kernel
theorem dX8_openNext_75 : decode cX8_openNext 75 = .ok (.iconst 0, 1) := by decide +kernel
theorem dX8_openNext_76 : decode cX8_openNext 76 = .ok (.bastore, 1) := by decide +kernel
theorem dX8_openNext_77 : decode cX8_openNext 77 = .ok (.iinc 2 1, 3) := by decide +kernel
theorem dX8_openNext_80 : decode cX8_openNext 80 = .ok (.goto (-21), 3) := by decide +kernel
theorem dX8_openNext_83 : decode cX8_openNext 83 = .ok (.aload_n 0, 1) := by decide +kernel
theorem dX8_openNext_84 : decode cX8_openNext 84 = .ok (.iconst 0, 1) := by decide +kernel
theorem dX8_openNext_85 : decode cX8_openNext 85 = .ok (.putfield 69, 3) := by decide +kernel
theorem dX8_openNext_88 : decode cX8_openNext 88 = .ok (.aload_n 0, 1) := by decide +kernel
theorem dX8_openNext_89 : decode cX8_openNext 89 = .ok (.bipush 76, 2) := by decide +kernel
theorem dX8_openNext_91 : decode cX8_openNext 91 = .ok (.iconst 1, 1) := by decide +kernel
theorem dX8_openNext_92 : decode cX8_openNext 92 = .ok (.invokevirtual 110, 3) := by decide +kernel
theorem dX8_openNext_95 : decode cX8_openNext 95 = .ok (.aload_n 0, 1) := by decide +kernel
theorem dX8_openNext_96 : decode cX8_openNext 96 = .ok (.bipush 71, 2) := by decide +kernel
theorem dX8_openNext_98 : decode cX8_openNext 98 = .ok (.iconst 1, 1) := by decide +kernel
theorem dX8_openNext_99 : decode cX8_openNext 99 = .ok (.invokevirtual 110, 3) := by decide +kernel
theorem dX8_openNext_102 : decode cX8_openNext 102 = .ok (.aload_n 0, 1) := by decide +kernel
theorem dX8_openNext_103 : decode cX8_openNext 103 = .ok (.aload_n 0, 1) := by decide +kernel
theorem dX8_openNext_104 : decode cX8_openNext 104 = .ok (.getfield 107, 3) := by decide +kernel
theorem dX8_openNext_107 : decode cX8_openNext 107 = .ok (.iconst 4, 1) := by decide +kernel
theorem dX8_openNext_108 : decode cX8_openNext 108 = .ok (.invokevirtual 110, 3) := by decide +kernel
theorem dX8_openNext_111 : decode cX8_openNext 111 = .ok (.aload_n 0, 1) := by decide +kernel
theorem dX8_openNext_112 : decode cX8_openNext 112 = .ok (.aload_n 0, 1) := by decide +kernel
theorem dX8_openNext_113 : decode cX8_openNext 113 = .ok (.getfield 47, 3) := by decide +kernel
theorem dX8_openNext_116 : decode cX8_openNext 116 = .ok (.iconst 0, 1) := by decide +kernel
theorem dX8_openNext_117 : decode cX8_openNext 117 = .ok (.bipush 6, 2) := by decide +kernel
theorem dX8_openNext_119 : decode cX8_openNext 119 = .ok (.invokestatic 84, 3) := by decide +kernel
theorem dX8_openNext_122 : decode cX8_openNext 122 = .ok (.iconst 4, 1) := by decide +kernel
theorem dX8_openNext_123 : decode cX8_openNext 123 = .ok (.invokevirtual 110, 3) := by decide +kernel
theorem dX8_openNext_126 : decode cX8_openNext 126 = .ok (.iconst 0, 1) := by decide +kernel
theorem dX8_openNext_127 : decode cX8_openNext 127 = .ok (.istore_n 2, 1) := by decide +kernel
theorem dX8_openNext_128 : decode cX8_openNext 128 = .ok (.iload_n 2, 1) := by decide +kernel
theorem dX8_openNext_129 : decode cX8_openNext 129 = .ok (.bipush 10, 2) := by decide +kernel
theorem dX8_openNext_131 : decode cX8_openNext 131 = .ok (.if_icmp .ge 25, 3) := by decide +kernel
theorem dX8_openNext_134 : decode cX8_openNext 134 = .ok (.aload_n 0, 1) := by decide +kernel
theorem dX8_openNext_135 : decode cX8_openNext 135 = .ok (.getfield 14, 3) := by decide +kernel
theorem dX8_openNext_138 : decode cX8_openNext 138 = .ok (.iload_n 1, 1) := by decide +kernel
theorem dX8_openNext_139 : decode cX8_openNext 139 = .ok (.iload_n 2, 1) := by decide +kernel
theorem dX8_openNext_140 : decode cX8_openNext 140 = .ok (.invokestatic 72, 3) := by decide +kernel
theorem dX8_openNext_143 : decode cX8_openNext 143 = .ok (.aload_n 0, 1) := by decide +kernel
theorem dX8_openNext_144 : decode cX8_openNext 144 = .ok (.getfield 47, 3) := by decide +kernel
theorem dX8_openNext_147 : decode cX8_openNext 147 = .ok (.iload_n 2, 1) := by decide +kernel
theorem dX8_openNext_148 : decode cX8_openNext 148 = .ok (.baload, 1) := by decide +kernel
theorem dX8_openNext_149 : decode cX8_openNext 149 = .ok (.bastore, 1) := by decide +kernel
theorem dX8_openNext_150 : decode cX8_openNext 150 = .ok (.iinc 2 1, 3) := by decide +kernel
theorem dX8_openNext_153 : decode cX8_openNext 153 = .ok (.goto (-25), 3) := by decide +kernel
theorem dX8_openNext_156 : decode cX8_openNext 156 = .ok (.aload_n 0, 1) := by decide +kernel
theorem dX8_openNext_157 : decode cX8_openNext 157 = .ok (.bipush 10, 2) := by decide +kernel
theorem dX8_openNext_159 : decode cX8_openNext 159 = .ok (.putfield 90, 3) := by decide +kernel
theorem dX8_openNext_162 : decode cX8_openNext 162 = .ok (.aload_n 0, 1) := by decide +kernel
theorem dX8_openNext_163 : decode cX8_openNext 163 = .ok (.getfield 50, 3) := by decide +kernel
theorem dX8_openNext_166 : decode cX8_openNext 166 = .ok (.iload_n 1, 1) := by decide +kernel
theorem dX8_openNext_167 : decode cX8_openNext 167 = .ok (.iconst 0, 1) := by decide +kernel
theorem dX8_openNext_168 : decode cX8_openNext 168 = .ok (.iastore, 1) := by decide +kernel
theorem dX8_openNext_169 : decode cX8_openNext 169 = .ok (.aload_n 0, 1) := by decide +kernel
theorem dX8_openNext_170 : decode cX8_openNext 170 = .ok (.iload_n 1, 1) := by decide +kernel
theorem dX8_openNext_171 : decode cX8_openNext 171 = .ok (.iconst 0, 1) := by decide +kernel
theorem dX8_openNext_172 : decode cX8_openNext 172 = .ok (.bipush 10, 2) := by decide +kernel
theorem dX8_openNext_174 : decode cX8_openNext 174 = .ok (.invokevirtual 114, 3) := by decide +kernel
theorem dX8_openNext_177 : decode cX8_openNext 177 = .ok (.return_, 1) := by decide +kernel
theorem dX8_opens_0 : decode cX8_opens 0 = .ok (.aload_n 0, 1) := by decide +kernel
theorem dX8_opens_1 : decode cX8_opens 1 = .ok (.getfield 87, 3) := by decide +kernel
theorem dX8_opens_4 : decode cX8_opens 4 = .ok (.ifCond .eq 15, 3) := by decide +kernel
theorem dX8_opens_19 : decode cX8_opens 19 = .ok (.iconst 1, 1) := by decide +kernel
theorem dX8_opens_20 : decode cX8_opens 20 = .ok (.goto 4, 3) := by decide +kernel
theorem dX8_opens_24 : decode cX8_opens 24 = .ok (.ireturn, 1) := by decide +kernel
theorem dX8_record_0 : decode cX8_record 0 = .ok (.aload_n 0, 1) := by decide +kernel
theorem dX8_record_1 : decode cX8_record 1 = .ok (.bipush 16, 2) := by decide +kernel
theorem dX8_record_3 : decode cX8_record 3 = .ok (.iload_n 3, 1) := by decide +kernel
theorem dX8_record_4 : decode cX8_record 4 = .ok (.iadd, 1) := by decide +kernel
theorem dX8_record_5 : decode cX8_record 5 = .ok (.invokevirtual 118, 3) := by decide +kernel
theorem dX8_record_8 : decode cX8_record 8 = .ok (.ifCond .eq 7, 3) := by decide +kernel
theorem dX8_record_11 : decode cX8_record 11 = .ok (.aload_n 0, 1) := by decide +kernel
theorem dX8_record_12 : decode cX8_record 12 = .ok (.invokevirtual 122, 3) := by decide +kernel
theorem dX8_record_15 : decode cX8_record 15 = .ok (.aload_n 0, 1) := by decide +kernel
theorem dX8_record_16 : decode cX8_record 16 = .ok (.iconst 0, 1) := by decide +kernel
theorem dX8_record_17 : decode cX8_record 17 = .ok (.putfield 69, 3) := by decide +kernel
theorem dX8_record_20 : decode cX8_record 20 = .ok (.aload_n 0, 1) := by decide +kernel
theorem dX8_record_21 : decode cX8_record 21 = .ok (.iload_n 1, 1) := by decide +kernel
theorem dX8_record_22 : decode cX8_record 22 = .ok (.iconst 1, 1) := by decide +kernel
theorem dX8_record_23 : decode cX8_record 23 = .ok (.invokevirtual 110, 3) := by decide +kernel
theorem dX8_record_26 : decode cX8_record 26 = .ok (.aload_n 0, 1) := by decide +kernel
theorem dX8_record_27 : decode cX8_record 27 = .ok (.iload_n 2, 1) := by decide +kernel
theorem dX8_record_28 : decode cX8_record 28 = .ok (.iconst 2, 1) := by decide +kernel
theorem dX8_record_29 : decode cX8_record 29 = .ok (.invokevirtual 110, 3) := by decide +kernel
theorem dX8_record_32 : decode cX8_record 32 = .ok (.aload_n 0, 1) := by decide +kernel
theorem dX8_record_33 : decode cX8_record 33 = .ok (.iload_n 3, 1) := by decide +kernel
theorem dX8_record_34 : decode cX8_record 34 = .ok (.iconst 1, 1) := by decide +kernel
theorem dX8_record_35 : decode cX8_record 35 = .ok (.invokevirtual 110, 3) := by decide +kernel
theorem dX8_record_38 : decode cX8_record 38 = .ok (.aload_n 0, 1) := by decide +kernel
theorem dX8_record_39 : decode cX8_record 39 = .ok (.aload_n 0, 1) := by decide +kernel
theorem dX8_record_40 : decode cX8_record 40 = .ok (.getfield 25, 3) := by decide +kernel
theorem dX8_record_43 : decode cX8_record 43 = .ok (.iconst 4, 1) := by decide +kernel
theorem dX8_record_44 : decode cX8_record 44 = .ok (.invokevirtual 110, 3) := by decide +kernel
theorem dX8_record_47 : decode cX8_record 47 = .ok (.aload_n 0, 1) := by decide +kernel
theorem dX8_record_48 : decode cX8_record 48 = .ok (.iload 4, 2) := by decide +kernel
theorem dX8_record_50 : decode cX8_record 50 = .ok (.iconst 4, 1) := by decide +kernel
theorem dX8_record_51 : decode cX8_record 51 = .ok (.invokevirtual 110, 3) := by decide +kernel
theorem dX8_record_54 : decode cX8_record 54 = .ok (.iconst 0, 1) := by decide +kernel
theorem dX8_record_55 : decode cX8_record 55 = .ok (.istore 5, 2) := by decide +kernel
theorem dX8_record_57 : decode cX8_record 57 = .ok (.iload 5, 2) := by decide +kernel
theorem dX8_record_59 : decode cX8_record 59 = .ok (.iload_n 3, 1) := by decide +kernel
theorem dX8_record_60 : decode cX8_record 60 = .ok (.if_icmp .ge 21, 3) := by decide +kernel
theorem dX8_record_81 : decode cX8_record 81 = .ok (.aload_n 0, 1) := by decide +kernel
theorem dX8_record_82 : decode cX8_record 82 = .ok (.aload_n 0, 1) := by decide +kernel
theorem dX8_record_83 : decode cX8_record 83 = .ok (.getfield 47, 3) := by decide +kernel
theorem dX8_record_86 : decode cX8_record 86 = .ok (.iconst 0, 1) := by decide +kernel
theorem dX8_record_87 : decode cX8_record 87 = .ok (.aload_n 0, 1) := by decide +kernel
theorem dX8_record_88 : decode cX8_record 88 = .ok (.getfield 69, 3) := by decide +kernel
theorem dX8_record_91 : decode cX8_record 91 = .ok (.invokestatic 84, 3) := by decide +kernel
theorem dX8_record_94 : decode cX8_record 94 = .ok (.iconst 4, 1) := by decide +kernel
theorem dX8_record_95 : decode cX8_record 95 = .ok (.invokevirtual 110, 3) := by decide +kernel
theorem dX8_record_98 : decode cX8_record 98 = .ok (.iconst 0, 1) := by decide +kernel
theorem dX8_record_99 : decode cX8_record 99 = .ok (.istore 5, 2) := by decide +kernel
theorem dX8_record_101 : decode cX8_record 101 = .ok (.iload 5, 2) := by decide +kernel
theorem dX8_record_103 : decode cX8_record 103 = .ok (.aload_n 0, 1) := by decide +kernel
theorem dX8_record_104 : decode cX8_record 104 = .ok (.getfield 69, 3) := by decide +kernel
theorem dX8_record_107 : decode cX8_record 107 = .ok (.if_icmp .ge 35, 3) := by decide +kernel
theorem dX8_record_110 : decode cX8_record 110 = .ok (.aload_n 0, 1) := by decide +kernel
theorem dX8_record_111 : decode cX8_record 111 = .ok (.getfield 14, 3) := by decide +kernel
theorem dX8_record_114 : decode cX8_record 114 = .ok (.aload_n 0, 1) := by decide +kernel
theorem dX8_record_115 : decode cX8_record 115 = .ok (.getfield 87, 3) := by decide +kernel
theorem dX8_record_118 : decode cX8_record 118 = .ok (.aload_n 0, 1) := by decide +kernel
theorem dX8_record_119 : decode cX8_record 119 = .ok (.getfield 90, 3) := by decide +kernel
theorem dX8_record_122 : decode cX8_record 122 = .ok (.iload 5, 2) := by decide +kernel
theorem dX8_record_124 : decode cX8_record 124 = .ok (.iadd, 1) := by decide +kernel
theorem dX8_record_125 : decode cX8_record 125 = .ok (.invokestatic 72, 3) := by decide +kernel
theorem dX8_record_128 : decode cX8_record 128 = .ok (.aload_n 0, 1) := by decide +kernel
theorem dX8_record_129 : decode cX8_record 129 = .ok (.getfield 47, 3) := by decide +kernel
theorem dX8_record_132 : decode cX8_record 132 = .ok (.iload 5, 2) := by decide +kernel
theorem dX8_record_134 : decode cX8_record 134 = .ok (.baload, 1) := by decide +kernel
theorem dX8_record_135 : decode cX8_record 135 = .ok (.bastore, 1) := by decide +kernel
theorem dX8_record_136 : decode cX8_record 136 = .ok (.iinc 5 1, 3) := by decide +kernel
theorem dX8_record_139 : decode cX8_record 139 = .ok (.goto (-38), 3) := by decide +kernel
theorem dX8_record_142 : decode cX8_record 142 = .ok (.aload_n 0, 1) := by decide +kernel
theorem dX8_record_143 : decode cX8_record 143 = .ok (.getfield 29, 3) := by decide +kernel
theorem dX8_record_146 : decode cX8_record 146 = .ok (.iload_n 2, 1) := by decide +kernel
theorem dX8_record_147 : decode cX8_record 147 = .ok (.iload_n 1, 1) := by decide +kernel
theorem dX8_record_148 : decode cX8_record 148 = .ok (.iconst 1, 1) := by decide +kernel
theorem dX8_record_149 : decode cX8_record 149 = .ok (.if_icmp .ne 10, 3) := by decide +kernel
theorem dX8_record_152 : decode cX8_record 152 = .ok (.aload_n 0, 1) := by decide +kernel
theorem dX8_record_153 : decode cX8_record 153 = .ok (.getfield 87, 3) := by decide +kernel
theorem dX8_record_156 : decode cX8_record 156 = .ok (.goto 4, 3) := by decide +kernel
theorem dX8_record_160 : decode cX8_record 160 = .ok (.iastore, 1) := by decide +kernel
theorem dX8_record_161 : decode cX8_record 161 = .ok (.aload_n 0, 1) := by decide +kernel
theorem dX8_record_162 : decode cX8_record 162 = .ok (.getfield 32, 3) := by decide +kernel
theorem dX8_record_165 : decode cX8_record 165 = .ok (.iload_n 2, 1) := by decide +kernel
theorem dX8_record_166 : decode cX8_record 166 = .ok (.aload_n 0, 1) := by decide +kernel
theorem dX8_record_167 : decode cX8_record 167 = .ok (.getfield 90, 3) := by decide +kernel
theorem dX8_record_170 : decode cX8_record 170 = .ok (.iastore, 1) := by decide +kernel
theorem dX8_record_171 : decode cX8_record 171 = .ok (.aload_n 0, 1) := by decide +kernel
theorem dX8_record_172 : decode cX8_record 172 = .ok (.aload_n 0, 1) := by decide +kernel
theorem dX8_record_173 : decode cX8_record 173 = .ok (.getfield 87, 3) := by decide +kernel
theorem dX8_record_176 : decode cX8_record 176 = .ok (.aload_n 0, 1) := by decide +kernel
theorem dX8_record_177 : decode cX8_record 177 = .ok (.getfield 90, 3) := by decide +kernel
theorem dX8_record_180 : decode cX8_record 180 = .ok (.aload_n 0, 1) := by decide +kernel
theorem dX8_record_181 : decode cX8_record 181 = .ok (.getfield 90, 3) := by decide +kernel
theorem dX8_record_184 : decode cX8_record 184 = .ok (.aload_n 0, 1) := by decide +kernel
theorem dX8_record_185 : decode cX8_record 185 = .ok (.getfield 69, 3) := by decide +kernel
theorem dX8_record_188 : decode cX8_record 188 = .ok (.iadd, 1) := by decide +kernel
theorem dX8_record_189 : decode cX8_record 189 = .ok (.invokevirtual 114, 3) := by decide +kernel
theorem dX8_record_192 : decode cX8_record 192 = .ok (.aload_n 0, 1) := by decide +kernel
theorem dX8_record_193 : decode cX8_record 193 = .ok (.getfield 50, 3) := by decide +kernel
theorem dX8_record_196 : decode cX8_record 196 = .ok (.aload_n 0, 1) := by decide +kernel
theorem dX8_record_197 : decode cX8_record 197 = .ok (.getfield 87, 3) := by decide +kernel
theorem dX8_record_200 : decode cX8_record 200 = .ok (.iload 4, 2) := by decide +kernel
theorem dX8_record_202 : decode cX8_record 202 = .ok (.aload_n 0, 1) := by decide +kernel
theorem dX8_record_203 : decode cX8_record 203 = .ok (.getfield 50, 3) := by decide +kernel
theorem dX8_record_206 : decode cX8_record 206 = .ok (.aload_n 0, 1) := by decide +kernel
theorem dX8_record_207 : decode cX8_record 207 = .ok (.getfield 87, 3) := by decide +kernel
theorem dX8_record_210 : decode cX8_record 210 = .ok (.iaload, 1) := by decide +kernel
theorem dX8_record_211 : decode cX8_record 211 = .ok (.if_icmp .le 8, 3) := by decide +kernel
theorem dX8_record_219 : decode cX8_record 219 = .ok (.aload_n 0, 1) := by decide +kernel
theorem dX8_record_220 : decode cX8_record 220 = .ok (.getfield 50, 3) := by decide +kernel
theorem dX8_record_223 : decode cX8_record 223 = .ok (.aload_n 0, 1) := by decide +kernel
theorem dX8_record_224 : decode cX8_record 224 = .ok (.getfield 87, 3) := by decide +kernel
theorem dX8_record_227 : decode cX8_record 227 = .ok (.iaload, 1) := by decide +kernel
theorem dX8_record_228 : decode cX8_record 228 = .ok (.iastore, 1) := by decide +kernel
theorem dX8_record_229 : decode cX8_record 229 = .ok (.aload_n 0, 1) := by decide +kernel
theorem dX8_record_230 : decode cX8_record 230 = .ok (.dup, 1) := by decide +kernel
theorem dX8_record_231 : decode cX8_record 231 = .ok (.getfield 90, 3) := by decide +kernel
theorem dX8_record_234 : decode cX8_record 234 = .ok (.aload_n 0, 1) := by decide +kernel
theorem dX8_record_235 : decode cX8_record 235 = .ok (.getfield 69, 3) := by decide +kernel
theorem dX8_record_238 : decode cX8_record 238 = .ok (.iadd, 1) := by decide +kernel
theorem dX8_record_239 : decode cX8_record 239 = .ok (.putfield 90, 3) := by decide +kernel
theorem dX8_record_242 : decode cX8_record 242 = .ok (.aload_n 0, 1) := by decide +kernel
theorem dX8_record_243 : decode cX8_record 243 = .ok (.dup, 1) := by decide +kernel
theorem dX8_record_244 : decode cX8_record 244 = .ok (.getfield 25, 3) := by decide +kernel
theorem dX8_record_247 : decode cX8_record 247 = .ok (.iconst 1, 1) := by decide +kernel
theorem dX8_record_248 : decode cX8_record 248 = .ok (.iadd, 1) := by decide +kernel
theorem dX8_record_249 : decode cX8_record 249 = .ok (.putfield 25, 3) := by decide +kernel
theorem dX8_record_252 : decode cX8_record 252 = .ok (.return_, 1) := by decide +kernel
theorem dX8_feed_0 : decode cX8_feed 0 = .ok (.aload_n 0, 1) := by decide +kernel
theorem dX8_feed_1 : decode cX8_feed 1 = .ok (.iconst 0, 1) := by decide +kernel
theorem dX8_feed_2 : decode cX8_feed 2 = .ok (.putfield 65, 3) := by decide +kernel
theorem dX8_feed_5 : decode cX8_feed 5 = .ok (.iload_n 3, 1) := by decide +kernel
theorem dX8_feed_6 : decode cX8_feed 6 = .ok (.iconst 0, 1) := by decide +kernel
theorem dX8_feed_7 : decode cX8_feed 7 = .ok (.bipush 8, 2) := by decide +kernel
theorem dX8_feed_9 : decode cX8_feed 9 = .ok (.invokestatic 125, 3) := by decide +kernel
theorem dX8_feed_12 : decode cX8_feed 12 = .ok (.ifCond .ne 6, 3) := by decide +kernel
theorem dX8_feed_15 : decode cX8_feed 15 = .ok (.bipush (-2), 2) := by decide +kernel
theorem dX8_feed_17 : decode cX8_feed 17 = .ok (.ireturn, 1) := by decide +kernel
theorem dX8_feed_18 : decode cX8_feed 18 = .ok (.iload_n 3, 1) := by decide +kernel
theorem dX8_feed_19 : decode cX8_feed 19 = .ok (.ifCond .ne 10, 3) := by decide +kernel
theorem dX8_feed_22 : decode cX8_feed 22 = .ok (.aload_n 0, 1) := by decide +kernel
theorem dX8_feed_23 : decode cX8_feed 23 = .ok (.iconst 0, 1) := by decide +kernel
theorem dX8_feed_24 : decode cX8_feed 24 = .ok (.putfield 129, 3) := by decide +kernel
theorem dX8_feed_27 : decode cX8_feed 27 = .ok (.iconst 0, 1) := by decide +kernel
theorem dX8_feed_28 : decode cX8_feed 28 = .ok (.ireturn, 1) := by decide +kernel
theorem dX8_feed_29 : decode cX8_feed 29 = .ok (.aload_n 0, 1) := by decide +kernel
theorem dX8_feed_30 : decode cX8_feed 30 = .ok (.getfield 129, 3) := by decide +kernel
theorem dX8_feed_33 : decode cX8_feed 33 = .ok (.iload_n 3, 1) := by decide +kernel
theorem dX8_feed_34 : decode cX8_feed 34 = .ok (.iadd, 1) := by decide +kernel
theorem dX8_feed_35 : decode cX8_feed 35 = .ok (.bipush 100, 2) := by decide +kernel
theorem dX8_feed_37 : decode cX8_feed 37 = .ok (.if_icmp .le 6, 3) := by decide +kernel
theorem dX8_feed_43 : decode cX8_feed 43 = .ok (.iload_n 3, 1) := by decide +kernel
theorem dX8_feed_44 : decode cX8_feed 44 = .ok (.iconst 1, 1) := by decide +kernel
theorem dX8_feed_45 : decode cX8_feed 45 = .ok (.isub, 1) := by decide +kernel
theorem dX8_feed_46 : decode cX8_feed 46 = .ok (.istore 4, 2) := by decide +kernel
theorem dX8_feed_48 : decode cX8_feed 48 = .ok (.iload 4, 2) := by decide +kernel
theorem dX8_feed_50 : decode cX8_feed 50 = .ok (.ifCond .lt 37, 3) := by decide +kernel
theorem dX8_feed_53 : decode cX8_feed 53 = .ok (.aload_n 0, 1) := by decide +kernel
theorem dX8_feed_54 : decode cX8_feed 54 = .ok (.getfield 44, 3) := by decide +kernel
theorem dX8_feed_57 : decode cX8_feed 57 = .ok (.aload_n 0, 1) := by decide +kernel
theorem dX8_feed_58 : decode cX8_feed 58 = .ok (.getfield 129, 3) := by decide +kernel
theorem dX8_feed_61 : decode cX8_feed 61 = .ok (.lload_n 1, 1) := by decide +kernel
theorem dX8_feed_62 : decode cX8_feed 62 = .ok (.bipush 8, 2) := by decide +kernel
theorem dX8_feed_64 : decode cX8_feed 64 = .ok (.iload 4, 2) := by decide +kernel
theorem dX8_feed_66 : decode cX8_feed 66 = .ok (.imul, 1) := by decide +kernel
theorem dX8_feed_67 : decode cX8_feed 67 = .ok (.lshr, 1) := by decide +kernel
theorem dX8_feed_68 : decode cX8_feed 68 = .ok (.l2i, 1) := by decide +kernel
theorem dX8_feed_69 : decode cX8_feed 69 = .ok (.i2b, 1) := by decide +kernel
theorem dX8_feed_70 : decode cX8_feed 70 = .ok (.bastore, 1) := by decide +kernel
theorem dX8_feed_71 : decode cX8_feed 71 = .ok (.aload_n 0, 1) := by decide +kernel
theorem dX8_feed_72 : decode cX8_feed 72 = .ok (.dup, 1) := by decide +kernel
theorem dX8_feed_73 : decode cX8_feed 73 = .ok (.getfield 129, 3) := by decide +kernel
theorem dX8_feed_76 : decode cX8_feed 76 = .ok (.iconst 1, 1) := by decide +kernel
theorem dX8_feed_77 : decode cX8_feed 77 = .ok (.iadd, 1) := by decide +kernel
theorem dX8_feed_78 : decode cX8_feed 78 = .ok (.putfield 129, 3) := by decide +kernel
theorem dX8_feed_81 : decode cX8_feed 81 = .ok (.iinc 4 (-1), 3) := by decide +kernel
theorem dX8_feed_84 : decode cX8_feed 84 = .ok (.goto (-36), 3) := by decide +kernel
theorem dX8_feed_87 : decode cX8_feed 87 = .ok (.aload_n 0, 1) := by decide +kernel
theorem dX8_feed_88 : decode cX8_feed 88 = .ok (.getfield 129, 3) := by decide +kernel
theorem dX8_feed_91 : decode cX8_feed 91 = .ok (.ireturn, 1) := by decide +kernel
theorem dX8_put_0 : decode cX8_put 0 = .ok (.aload_n 0, 1) := by decide +kernel
theorem dX8_put_1 : decode cX8_put 1 = .ok (.iconst 0, 1) := by decide +kernel
theorem dX8_put_2 : decode cX8_put 2 = .ok (.putfield 65, 3) := by decide +kernel
theorem dX8_put_5 : decode cX8_put 5 = .ok (.aload_n 0, 1) := by decide +kernel
theorem dX8_put_6 : decode cX8_put 6 = .ok (.getfield 132, 3) := by decide +kernel
theorem dX8_put_9 : decode cX8_put 9 = .ok (.ifCond .eq 6, 3) := by decide +kernel
theorem dX8_put_15 : decode cX8_put 15 = .ok (.iload_n 1, 1) := by decide +kernel
theorem dX8_put_16 : decode cX8_put 16 = .ok (.iconst 0, 1) := by decide +kernel
theorem dX8_put_17 : decode cX8_put 17 = .ok (.sipush 299, 3) := by decide +kernel
theorem dX8_put_20 : decode cX8_put 20 = .ok (.invokestatic 125, 3) := by decide +kernel
theorem dX8_put_23 : decode cX8_put 23 = .ok (.ifCond .ne 6, 3) := by decide +kernel
theorem dX8_put_26 : decode cX8_put 26 = .ok (.bipush (-2), 2) := by decide +kernel
theorem dX8_put_28 : decode cX8_put 28 = .ok (.ireturn, 1) := by decide +kernel
theorem dX8_put_29 : decode cX8_put 29 = .ok (.aload_n 0, 1) := by decide +kernel
theorem dX8_put_30 : decode cX8_put 30 = .ok (.bipush 16, 2) := by decide +kernel
theorem dX8_put_32 : decode cX8_put 32 = .ok (.aload_n 0, 1) := by decide +kernel
theorem dX8_put_33 : decode cX8_put 33 = .ok (.getfield 129, 3) := by decide +kernel
theorem dX8_put_36 : decode cX8_put 36 = .ok (.iadd, 1) := by decide +kernel
theorem dX8_put_37 : decode cX8_put 37 = .ok (.invokevirtual 118, 3) := by decide +kernel
theorem dX8_put_40 : decode cX8_put 40 = .ok (.ifCond .eq 14, 3) := by decide +kernel
theorem dX8_put_43 : decode cX8_put 43 = .ok (.aload_n 0, 1) := by decide +kernel
theorem dX8_put_44 : decode cX8_put 44 = .ok (.invokevirtual 136, 3) := by decide +kernel
theorem dX8_put_47 : decode cX8_put 47 = .ok (.iconst 2, 1) := by decide +kernel
theorem dX8_put_48 : decode cX8_put 48 = .ok (.if_icmp .gt 6, 3) := by decide +kernel
theorem dX8_put_54 : decode cX8_put 54 = .ok (.iconst 0, 1) := by decide +kernel
theorem dX8_put_55 : decode cX8_put 55 = .ok (.istore_n 2, 1) := by decide +kernel
theorem dX8_put_56 : decode cX8_put 56 = .ok (.iload_n 2, 1) := by decide +kernel
theorem dX8_put_57 : decode cX8_put 57 = .ok (.aload_n 0, 1) := by decide +kernel
theorem dX8_put_58 : decode cX8_put 58 = .ok (.getfield 129, 3) := by decide +kernel
theorem dX8_put_61 : decode cX8_put 61 = .ok (.if_icmp .ge 21, 3) := by decide +kernel
theorem dX8_put_82 : decode cX8_put 82 = .ok (.aload_n 0, 1) := by decide +kernel
theorem dX8_put_83 : decode cX8_put 83 = .ok (.iconst 1, 1) := by decide +kernel
theorem dX8_put_84 : decode cX8_put 84 = .ok (.iload_n 1, 1) := by decide +kernel
theorem dX8_put_85 : decode cX8_put 85 = .ok (.aload_n 0, 1) := by decide +kernel
theorem dX8_put_86 : decode cX8_put 86 = .ok (.getfield 129, 3) := by decide +kernel
theorem dX8_put_89 : decode cX8_put 89 = .ok (.aload_n 0, 1) := by decide +kernel
theorem dX8_put_90 : decode cX8_put 90 = .ok (.getfield 140, 3) := by decide +kernel
theorem dX8_put_93 : decode cX8_put 93 = .ok (.invokevirtual 143, 3) := by decide +kernel
theorem dX8_put_96 : decode cX8_put 96 = .ok (.aload_n 0, 1) := by decide +kernel
theorem dX8_put_97 : decode cX8_put 97 = .ok (.iconst 0, 1) := by decide +kernel
theorem dX8_put_98 : decode cX8_put 98 = .ok (.putfield 129, 3) := by decide +kernel
theorem dX8_put_101 : decode cX8_put 101 = .ok (.aload_n 0, 1) := by decide +kernel
theorem dX8_put_102 : decode cX8_put 102 = .ok (.getfield 25, 3) := by decide +kernel
theorem dX8_put_105 : decode cX8_put 105 = .ok (.iconst 1, 1) := by decide +kernel
theorem dX8_put_106 : decode cX8_put 106 = .ok (.isub, 1) := by decide +kernel
theorem dX8_put_107 : decode cX8_put 107 = .ok (.ireturn, 1) := by decide +kernel
theorem dX8_none_0 : decode cX8_none 0 = .ok (.iload_n 1, 1) := by decide +kernel
theorem dX8_none_1 : decode cX8_none 1 = .ok (.iconst 0, 1) := by decide +kernel
theorem dX8_none_2 : decode cX8_none 2 = .ok (.sipush 299, 3) := by decide +kernel
theorem dX8_none_5 : decode cX8_none 5 = .ok (.invokestatic 125, 3) := by decide +kernel
theorem dX8_none_8 : decode cX8_none 8 = .ok (.ifCond .eq 12, 3) := by decide +kernel
theorem dX8_none_11 : decode cX8_none 11 = .ok (.aload_n 0, 1) := by decide +kernel
theorem dX8_none_12 : decode cX8_none 12 = .ok (.getfield 29, 3) := by decide +kernel
theorem dX8_none_15 : decode cX8_none 15 = .ok (.iload_n 1, 1) := by decide +kernel
theorem dX8_none_16 : decode cX8_none 16 = .ok (.iaload, 1) := by decide +kernel
theorem dX8_none_17 : decode cX8_none 17 = .ok (.ifCond .ne 7, 3) := by decide +kernel
theorem dX8_none_20 : decode cX8_none 20 = .ok (.iconst 1, 1) := by decide +kernel
theorem dX8_none_21 : decode cX8_none 21 = .ok (.goto 4, 3) := by decide +kernel
theorem dX8_none_25 : decode cX8_none 25 = .ok (.ireturn, 1) := by decide +kernel
theorem dX8_remove_0 : decode cX8_remove 0 = .ok (.aload_n 0, 1) := by decide +kernel
theorem dX8_remove_1 : decode cX8_remove 1 = .ok (.iconst 0, 1) := by decide +kernel
theorem dX8_remove_2 : decode cX8_remove 2 = .ok (.putfield 65, 3) := by decide +kernel
theorem dX8_remove_5 : decode cX8_remove 5 = .ok (.aload_n 0, 1) := by decide +kernel
theorem dX8_remove_6 : decode cX8_remove 6 = .ok (.getfield 132, 3) := by decide +kernel
theorem dX8_remove_9 : decode cX8_remove 9 = .ok (.ifCond .eq 6, 3) := by decide +kernel
theorem dX8_remove_15 : decode cX8_remove 15 = .ok (.aload_n 0, 1) := by decide +kernel
theorem dX8_remove_16 : decode cX8_remove 16 = .ok (.iload_n 1, 1) := by decide +kernel
theorem dX8_remove_17 : decode cX8_remove 17 = .ok (.invokevirtual 147, 3) := by decide +kernel
theorem dX8_remove_20 : decode cX8_remove 20 = .ok (.ifCond .eq 5, 3) := by decide +kernel
theorem dX8_remove_23 : decode cX8_remove 23 = .ok (.iconst (-1), 1) := by decide +kernel
theorem dX8_remove_24 : decode cX8_remove 24 = .ok (.ireturn, 1) := by decide +kernel
theorem dX8_size_0 : decode cX8_size 0 = .ok (.aload_n 0, 1) := by decide +kernel
theorem dX8_size_1 : decode cX8_size 1 = .ok (.iconst 0, 1) := by decide +kernel
theorem dX8_size_2 : decode cX8_size 2 = .ok (.putfield 65, 3) := by decide +kernel
theorem dX8_size_5 : decode cX8_size 5 = .ok (.aload_n 0, 1) := by decide +kernel
theorem dX8_size_6 : decode cX8_size 6 = .ok (.getfield 132, 3) := by decide +kernel
theorem dX8_size_9 : decode cX8_size 9 = .ok (.ifCond .eq 8, 3) := by decide +kernel
theorem dX8_size_17 : decode cX8_size 17 = .ok (.aload_n 0, 1) := by decide +kernel
theorem dX8_size_18 : decode cX8_size 18 = .ok (.iload_n 1, 1) := by decide +kernel
theorem dX8_size_19 : decode cX8_size 19 = .ok (.invokevirtual 147, 3) := by decide +kernel
theorem dX8_size_22 : decode cX8_size 22 = .ok (.ifCond .eq 7, 3) := by decide +kernel
theorem dX8_size_25 : decode cX8_size 25 = .ok (.iconst (-1), 1) := by decide +kernel
theorem dX8_size_26 : decode cX8_size 26 = .ok (.goto 11, 3) := by decide +kernel
theorem dX8_size_37 : decode cX8_size 37 = .ok (.ireturn, 1) := by decide +kernel
theorem dX8_value_0 : decode cX8_value 0 = .ok (.aload_n 0, 1) := by decide +kernel
theorem dX8_value_1 : decode cX8_value 1 = .ok (.iconst 0, 1) := by decide +kernel
theorem dX8_value_2 : decode cX8_value 2 = .ok (.putfield 65, 3) := by decide +kernel
theorem dX8_value_5 : decode cX8_value 5 = .ok (.aload_n 0, 1) := by decide +kernel
theorem dX8_value_6 : decode cX8_value 6 = .ok (.getfield 132, 3) := by decide +kernel
theorem dX8_value_9 : decode cX8_value 9 = .ok (.ifCond .eq 6, 3) := by decide +kernel
theorem dX8_value_15 : decode cX8_value 15 = .ok (.aload_n 0, 1) := by decide +kernel
theorem dX8_value_16 : decode cX8_value 16 = .ok (.iload_n 1, 1) := by decide +kernel
theorem dX8_value_17 : decode cX8_value 17 = .ok (.invokevirtual 147, 3) := by decide +kernel
theorem dX8_value_20 : decode cX8_value 20 = .ok (.ifCond .ne 19, 3) := by decide +kernel
theorem dX8_value_39 : decode cX8_value 39 = .ok (.iconst (-1), 1) := by decide +kernel
theorem dX8_value_40 : decode cX8_value 40 = .ok (.goto 32, 3) := by decide +kernel
theorem dX8_value_72 : decode cX8_value 72 = .ok (.ireturn, 1) := by decide +kernel
theorem dX8_write_0 : decode cX8_write 0 = .ok (.aload_n 0, 1) := by decide +kernel
theorem dX8_write_1 : decode cX8_write 1 = .ok (.getfield 150, 3) := by decide +kernel
theorem dX8_write_4 : decode cX8_write 4 = .ok (.iconst 1, 1) := by decide +kernel
theorem dX8_write_5 : decode cX8_write 5 = .ok (.if_icmp .ne 7, 3) := by decide +kernel
theorem dX8_write_12 : decode cX8_write 12 = .ok (.iconst 0, 1) := by decide +kernel
theorem dX8_write_13 : decode cX8_write 13 = .ok (.istore 5, 2) := by decide +kernel
theorem dX8_write_15 : decode cX8_write 15 = .ok (.aload_n 0, 1) := by decide +kernel
theorem dX8_write_16 : decode cX8_write 16 = .ok (.dup, 1) := by decide +kernel
theorem dX8_write_17 : decode cX8_write 17 = .ok (.getfield 153, 3) := by decide +kernel
theorem dX8_write_20 : decode cX8_write 20 = .ok (.iload 5, 2) := by decide +kernel
theorem dX8_write_22 : decode cX8_write 22 = .ok (.ifCond .eq 7, 3) := by decide +kernel
theorem dX8_write_29 : decode cX8_write 29 = .ok (.iconst 1, 1) := by decide +kernel
theorem dX8_write_30 : decode cX8_write 30 = .ok (.iadd, 1) := by decide +kernel
theorem dX8_write_31 : decode cX8_write 31 = .ok (.putfield 153, 3) := by decide +kernel
theorem dX8_write_34 : decode cX8_write 34 = .ok (.iconst 0, 1) := by decide +kernel
theorem dX8_write_35 : decode cX8_write 35 = .ok (.istore 6, 2) := by decide +kernel
theorem dX8_write_37 : decode cX8_write 37 = .ok (.iload 6, 2) := by decide +kernel
theorem dX8_write_39 : decode cX8_write 39 = .ok (.bipush 64, 2) := by decide +kernel
theorem dX8_write_41 : decode cX8_write 41 = .ok (.if_icmp .ge 38, 3) := by decide +kernel
theorem dX8_write_44 : decode cX8_write 44 = .ok (.iload 5, 2) := by decide +kernel
theorem dX8_write_46 : decode cX8_write 46 = .ok (.ifCond .eq 12, 3) := by decide +kernel
theorem dX8_write_58 : decode cX8_write 58 = .ok (.aload_n 0, 1) := by decide +kernel
theorem dX8_write_59 : decode cX8_write 59 = .ok (.getfield 8, 3) := by decide +kernel
theorem dX8_write_62 : decode cX8_write 62 = .ok (.iload_n 3, 1) := by decide +kernel
theorem dX8_write_63 : decode cX8_write 63 = .ok (.iload 6, 2) := by decide +kernel
theorem dX8_write_65 : decode cX8_write 65 = .ok (.iadd, 1) := by decide +kernel
theorem dX8_write_66 : decode cX8_write 66 = .ok (.aload_n 1, 1) := by decide +kernel
theorem dX8_write_67 : decode cX8_write 67 = .ok (.iload_n 2, 1) := by decide +kernel
theorem dX8_write_68 : decode cX8_write 68 = .ok (.iload 6, 2) := by decide +kernel
theorem dX8_write_70 : decode cX8_write 70 = .ok (.iadd, 1) := by decide +kernel
theorem dX8_write_71 : decode cX8_write 71 = .ok (.baload, 1) := by decide +kernel
theorem dX8_write_72 : decode cX8_write 72 = .ok (.bastore, 1) := by decide +kernel
theorem dX8_write_73 : decode cX8_write 73 = .ok (.iinc 6 1, 3) := by decide +kernel
theorem dX8_write_76 : decode cX8_write 76 = .ok (.goto (-39), 3) := by decide +kernel
theorem dX8_write_79 : decode cX8_write 79 = .ok (.iconst 0, 1) := by decide +kernel
theorem dX8_write_80 : decode cX8_write 80 = .ok (.istore 6, 2) := by decide +kernel
theorem dX8_write_82 : decode cX8_write 82 = .ok (.iload 6, 2) := by decide +kernel
theorem dX8_write_84 : decode cX8_write 84 = .ok (.bipush 64, 2) := by decide +kernel
theorem dX8_write_86 : decode cX8_write 86 = .ok (.if_icmp .ge 56, 3) := by decide +kernel
theorem dX8_write_89 : decode cX8_write 89 = .ok (.aload_n 0, 1) := by decide +kernel
theorem dX8_write_90 : decode cX8_write 90 = .ok (.getfield 17, 3) := by decide +kernel
theorem dX8_write_93 : decode cX8_write 93 = .ok (.iload_n 3, 1) := by decide +kernel
theorem dX8_write_94 : decode cX8_write 94 = .ok (.iload 6, 2) := by decide +kernel
theorem dX8_write_96 : decode cX8_write 96 = .ok (.iadd, 1) := by decide +kernel
theorem dX8_write_97 : decode cX8_write 97 = .ok (.iload 5, 2) := by decide +kernel
theorem dX8_write_99 : decode cX8_write 99 = .ok (.ifCond .eq 35, 3) := by decide +kernel
theorem dX8_write_134 : decode cX8_write 134 = .ok (.iconst 0, 1) := by decide +kernel
theorem dX8_write_135 : decode cX8_write 135 = .ok (.bastore, 1) := by decide +kernel
theorem dX8_write_136 : decode cX8_write 136 = .ok (.iinc 6 1, 3) := by decide +kernel
theorem dX8_write_139 : decode cX8_write 139 = .ok (.goto (-57), 3) := by decide +kernel
theorem dX8_write_142 : decode cX8_write 142 = .ok (.aload_n 0, 1) := by decide +kernel
theorem dX8_write_143 : decode cX8_write 143 = .ok (.dup, 1) := by decide +kernel
theorem dX8_write_144 : decode cX8_write 144 = .ok (.getfield 150, 3) := by decide +kernel
theorem dX8_write_147 : decode cX8_write 147 = .ok (.aload_n 0, 1) := by decide +kernel
theorem dX8_write_148 : decode cX8_write 148 = .ok (.getfield 150, 3) := by decide +kernel
theorem dX8_write_151 : decode cX8_write 151 = .ok (.ifCond .le 7, 3) := by decide +kernel
theorem dX8_write_158 : decode cX8_write 158 = .ok (.iconst 0, 1) := by decide +kernel
theorem dX8_write_159 : decode cX8_write 159 = .ok (.isub, 1) := by decide +kernel
theorem dX8_write_160 : decode cX8_write 160 = .ok (.putfield 150, 3) := by decide +kernel
theorem dX8_write_163 : decode cX8_write 163 = .ok (.aload_n 0, 1) := by decide +kernel
theorem dX8_write_164 : decode cX8_write 164 = .ok (.aload_n 0, 1) := by decide +kernel
theorem dX8_write_165 : decode cX8_write 165 = .ok (.getfield 132, 3) := by decide +kernel
theorem dX8_write_168 : decode cX8_write 168 = .ok (.ifCond .ne 8, 3) := by decide +kernel
theorem dX8_write_171 : decode cX8_write 171 = .ok (.iload 5, 2) := by decide +kernel
theorem dX8_write_173 : decode cX8_write 173 = .ok (.ifCond .eq 7, 3) := by decide +kernel
theorem dX8_write_180 : decode cX8_write 180 = .ok (.iconst 0, 1) := by decide +kernel
theorem dX8_write_181 : decode cX8_write 181 = .ok (.putfield 132, 3) := by decide +kernel
theorem dX8_write_184 : decode cX8_write 184 = .ok (.iload 5, 2) := by decide +kernel
theorem dX8_write_186 : decode cX8_write 186 = .ok (.ireturn, 1) := by decide +kernel
theorem dX8_syncAll_0 : decode cX8_syncAll 0 = .ok (.iconst 0, 1) := by decide +kernel
theorem dX8_syncAll_1 : decode cX8_syncAll 1 = .ok (.istore_n 1, 1) := by decide +kernel
theorem dX8_syncAll_2 : decode cX8_syncAll 2 = .ok (.iconst 0, 1) := by decide +kernel
theorem dX8_syncAll_3 : decode cX8_syncAll 3 = .ok (.istore_n 2, 1) := by decide +kernel
theorem dX8_syncAll_4 : decode cX8_syncAll 4 = .ok (.iload_n 2, 1) := by decide +kernel
theorem dX8_syncAll_5 : decode cX8_syncAll 5 = .ok (.aload_n 0, 1) := by decide +kernel
theorem dX8_syncAll_6 : decode cX8_syncAll 6 = .ok (.getfield 104, 3) := by decide +kernel
theorem dX8_syncAll_9 : decode cX8_syncAll 9 = .ok (.if_icmp .ge 145, 3) := by decide +kernel
theorem dX8_syncAll_154 : decode cX8_syncAll 154 = .ok (.aload_n 0, 1) := by decide +kernel
theorem dX8_syncAll_155 : decode cX8_syncAll 155 = .ok (.iconst 0, 1) := by decide +kernel
theorem dX8_syncAll_156 : decode cX8_syncAll 156 = .ok (.putfield 104, 3) := by decide +kernel
theorem dX8_syncAll_159 : decode cX8_syncAll 159 = .ok (.iload_n 1, 1) := by decide +kernel
theorem dX8_syncAll_160 : decode cX8_syncAll 160 = .ok (.ireturn, 1) := by decide +kernel
theorem dX8_sync_0 : decode cX8_sync 0 = .ok (.aload_n 0, 1) := by decide +kernel
theorem dX8_sync_1 : decode cX8_sync 1 = .ok (.iconst 0, 1) := by decide +kernel
theorem dX8_sync_2 : decode cX8_sync 2 = .ok (.putfield 65, 3) := by decide +kernel
theorem dX8_sync_5 : decode cX8_sync 5 = .ok (.aload_n 0, 1) := by decide +kernel
theorem dX8_sync_6 : decode cX8_sync 6 = .ok (.getfield 132, 3) := by decide +kernel
theorem dX8_sync_9 : decode cX8_sync 9 = .ok (.ifCond .eq 8, 3) := by decide +kernel
theorem dX8_sync_17 : decode cX8_sync 17 = .ok (.aload_n 0, 1) := by decide +kernel
theorem dX8_sync_18 : decode cX8_sync 18 = .ok (.invokevirtual 163, 3) := by decide +kernel
theorem dX8_sync_21 : decode cX8_sync 21 = .ok (.ireturn, 1) := by decide +kernel
theorem dX8_checkpoint_0 : decode cX8_checkpoint 0 = .ok (.aload_n 0, 1) := by decide +kernel
theorem dX8_checkpoint_1 : decode cX8_checkpoint 1 = .ok (.iconst 0, 1) := by decide +kernel
theorem dX8_checkpoint_2 : decode cX8_checkpoint 2 = .ok (.putfield 65, 3) := by decide +kernel
theorem dX8_checkpoint_5 : decode cX8_checkpoint 5 = .ok (.aload_n 0, 1) := by decide +kernel
theorem dX8_checkpoint_6 : decode cX8_checkpoint 6 = .ok (.getfield 132, 3) := by decide +kernel
theorem dX8_checkpoint_9 : decode cX8_checkpoint 9 = .ok (.ifCond .eq 6, 3) := by decide +kernel
theorem dX8_checkpoint_15 : decode cX8_checkpoint 15 = .ok (.aload_n 0, 1) := by decide +kernel
theorem dX8_checkpoint_16 : decode cX8_checkpoint 16 = .ok (.invokevirtual 163, 3) := by decide +kernel
theorem dX8_checkpoint_19 : decode cX8_checkpoint 19 = .ok (.bipush (-5), 2) := by decide +kernel
theorem dX8_checkpoint_21 : decode cX8_checkpoint 21 = .ok (.if_icmp .ne 6, 3) := by decide +kernel
theorem dX8_checkpoint_27 : decode cX8_checkpoint 27 = .ok (.aload_n 0, 1) := by decide +kernel
theorem dX8_checkpoint_28 : decode cX8_checkpoint 28 = .ok (.iconst 0, 1) := by decide +kernel
theorem dX8_checkpoint_29 : decode cX8_checkpoint 29 = .ok (.putfield 69, 3) := by decide +kernel
theorem dX8_checkpoint_32 : decode cX8_checkpoint 32 = .ok (.aload_n 0, 1) := by decide +kernel
theorem dX8_checkpoint_33 : decode cX8_checkpoint 33 = .ok (.bipush 67, 2) := by decide +kernel
theorem dX8_checkpoint_35 : decode cX8_checkpoint 35 = .ok (.iconst 1, 1) := by decide +kernel
theorem dX8_checkpoint_36 : decode cX8_checkpoint 36 = .ok (.invokevirtual 110, 3) := by decide +kernel
theorem dX8_checkpoint_39 : decode cX8_checkpoint 39 = .ok (.aload_n 0, 1) := by decide +kernel
theorem dX8_checkpoint_40 : decode cX8_checkpoint 40 = .ok (.bipush 80, 2) := by decide +kernel
theorem dX8_checkpoint_42 : decode cX8_checkpoint 42 = .ok (.iconst 1, 1) := by decide +kernel
theorem dX8_checkpoint_43 : decode cX8_checkpoint 43 = .ok (.invokevirtual 110, 3) := by decide +kernel
theorem dX8_checkpoint_46 : decode cX8_checkpoint 46 = .ok (.aload_n 0, 1) := by decide +kernel
theorem dX8_checkpoint_47 : decode cX8_checkpoint 47 = .ok (.aload_n 0, 1) := by decide +kernel
theorem dX8_checkpoint_48 : decode cX8_checkpoint 48 = .ok (.getfield 166, 3) := by decide +kernel
theorem dX8_checkpoint_51 : decode cX8_checkpoint 51 = .ok (.iconst 1, 1) := by decide +kernel
theorem dX8_checkpoint_52 : decode cX8_checkpoint 52 = .ok (.iadd, 1) := by decide +kernel
theorem dX8_checkpoint_53 : decode cX8_checkpoint 53 = .ok (.iconst 4, 1) := by decide +kernel
theorem dX8_checkpoint_54 : decode cX8_checkpoint 54 = .ok (.invokevirtual 110, 3) := by decide +kernel
theorem dX8_checkpoint_57 : decode cX8_checkpoint 57 = .ok (.aload_n 0, 1) := by decide +kernel
theorem dX8_checkpoint_58 : decode cX8_checkpoint 58 = .ok (.aload_n 0, 1) := by decide +kernel
theorem dX8_checkpoint_59 : decode cX8_checkpoint 59 = .ok (.getfield 25, 3) := by decide +kernel
theorem dX8_checkpoint_62 : decode cX8_checkpoint 62 = .ok (.iconst 4, 1) := by decide +kernel
theorem dX8_checkpoint_63 : decode cX8_checkpoint 63 = .ok (.invokevirtual 110, 3) := by decide +kernel
theorem dX8_checkpoint_66 : decode cX8_checkpoint 66 = .ok (.aload_n 0, 1) := by decide +kernel
theorem dX8_checkpoint_67 : decode cX8_checkpoint 67 = .ok (.aload_n 0, 1) := by decide +kernel
theorem dX8_checkpoint_68 : decode cX8_checkpoint 68 = .ok (.getfield 140, 3) := by decide +kernel
theorem dX8_checkpoint_71 : decode cX8_checkpoint 71 = .ok (.iconst 4, 1) := by decide +kernel
theorem dX8_checkpoint_72 : decode cX8_checkpoint 72 = .ok (.invokevirtual 110, 3) := by decide +kernel
theorem dX8_checkpoint_75 : decode cX8_checkpoint 75 = .ok (.aload_n 0, 1) := by decide +kernel
theorem dX8_checkpoint_76 : decode cX8_checkpoint 76 = .ok (.aload_n 0, 1) := by decide +kernel
theorem dX8_checkpoint_77 : decode cX8_checkpoint 77 = .ok (.getfield 87, 3) := by decide +kernel
theorem dX8_checkpoint_80 : decode cX8_checkpoint 80 = .ok (.iconst 1, 1) := by decide +kernel
theorem dX8_checkpoint_81 : decode cX8_checkpoint 81 = .ok (.invokevirtual 110, 3) := by decide +kernel
theorem dX8_checkpoint_84 : decode cX8_checkpoint 84 = .ok (.aload_n 0, 1) := by decide +kernel
theorem dX8_checkpoint_85 : decode cX8_checkpoint 85 = .ok (.aload_n 0, 1) := by decide +kernel
theorem dX8_checkpoint_86 : decode cX8_checkpoint 86 = .ok (.getfield 87, 3) := by decide +kernel
theorem dX8_checkpoint_89 : decode cX8_checkpoint 89 = .ok (.ifCond .ne 7, 3) := by decide +kernel
theorem dX8_checkpoint_92 : decode cX8_checkpoint 92 = .ok (.iconst 0, 1) := by decide +kernel
theorem dX8_checkpoint_93 : decode cX8_checkpoint 93 = .ok (.goto 7, 3) := by decide +kernel
theorem dX8_checkpoint_100 : decode cX8_checkpoint 100 = .ok (.iconst 2, 1) := by decide +kernel
theorem dX8_checkpoint_101 : decode cX8_checkpoint 101 = .ok (.invokevirtual 110, 3) := by decide +kernel
theorem dX8_checkpoint_104 : decode cX8_checkpoint 104 = .ok (.aload_n 0, 1) := by decide +kernel
theorem dX8_checkpoint_105 : decode cX8_checkpoint 105 = .ok (.aload_n 0, 1) := by decide +kernel
theorem dX8_checkpoint_106 : decode cX8_checkpoint 106 = .ok (.getfield 107, 3) := by decide +kernel
theorem dX8_checkpoint_109 : decode cX8_checkpoint 109 = .ok (.iconst 4, 1) := by decide +kernel
theorem dX8_checkpoint_110 : decode cX8_checkpoint 110 = .ok (.invokevirtual 110, 3) := by decide +kernel
theorem dX8_checkpoint_113 : decode cX8_checkpoint 113 = .ok (.aload_n 0, 1) := by decide +kernel
theorem dX8_checkpoint_114 : decode cX8_checkpoint 114 = .ok (.aload_n 0, 1) := by decide +kernel
theorem dX8_checkpoint_115 : decode cX8_checkpoint 115 = .ok (.invokevirtual 168, 3) := by decide +kernel
theorem dX8_checkpoint_118 : decode cX8_checkpoint 118 = .ok (.iconst 2, 1) := by decide +kernel
theorem dX8_checkpoint_119 : decode cX8_checkpoint 119 = .ok (.invokevirtual 110, 3) := by decide +kernel
theorem dX8_checkpoint_122 : decode cX8_checkpoint 122 = .ok (.iconst 0, 1) := by decide +kernel
theorem dX8_checkpoint_123 : decode cX8_checkpoint 123 = .ok (.istore_n 1, 1) := by decide +kernel
theorem dX8_checkpoint_124 : decode cX8_checkpoint 124 = .ok (.iload_n 1, 1) := by decide +kernel
theorem dX8_checkpoint_125 : decode cX8_checkpoint 125 = .ok (.sipush 300, 3) := by decide +kernel
theorem dX8_checkpoint_128 : decode cX8_checkpoint 128 = .ok (.if_icmp .ge 46, 3) := by decide +kernel
theorem dX8_checkpoint_131 : decode cX8_checkpoint 131 = .ok (.aload_n 0, 1) := by decide +kernel
theorem dX8_checkpoint_132 : decode cX8_checkpoint 132 = .ok (.getfield 29, 3) := by decide +kernel
theorem dX8_checkpoint_135 : decode cX8_checkpoint 135 = .ok (.iload_n 1, 1) := by decide +kernel
theorem dX8_checkpoint_136 : decode cX8_checkpoint 136 = .ok (.iaload, 1) := by decide +kernel
theorem dX8_checkpoint_137 : decode cX8_checkpoint 137 = .ok (.ifCond .le 31, 3) := by decide +kernel
theorem dX8_checkpoint_168 : decode cX8_checkpoint 168 = .ok (.iinc 1 1, 3) := by decide +kernel
theorem dX8_checkpoint_171 : decode cX8_checkpoint 171 = .ok (.goto (-47), 3) := by decide +kernel
theorem dX8_checkpoint_174 : decode cX8_checkpoint 174 = .ok (.bipush 8, 2) := by decide +kernel
theorem dX8_checkpoint_176 : decode cX8_checkpoint 176 = .ok (.istore_n 1, 1) := by decide +kernel
theorem dX8_checkpoint_177 : decode cX8_checkpoint 177 = .ok (.iload_n 1, 1) := by decide +kernel
theorem dX8_checkpoint_178 : decode cX8_checkpoint 178 = .ok (.bipush 64, 2) := by decide +kernel
theorem dX8_checkpoint_180 : decode cX8_checkpoint 180 = .ok (.if_icmp .ge 39, 3) := by decide +kernel
theorem dX8_checkpoint_183 : decode cX8_checkpoint 183 = .ok (.aload_n 0, 1) := by decide +kernel
theorem dX8_checkpoint_184 : decode cX8_checkpoint 184 = .ok (.aload_n 0, 1) := by decide +kernel
theorem dX8_checkpoint_185 : decode cX8_checkpoint 185 = .ok (.getfield 21, 3) := by decide +kernel
theorem dX8_checkpoint_188 : decode cX8_checkpoint 188 = .ok (.iload_n 1, 1) := by decide +kernel
theorem dX8_checkpoint_189 : decode cX8_checkpoint 189 = .ok (.iaload, 1) := by decide +kernel
theorem dX8_checkpoint_190 : decode cX8_checkpoint 190 = .ok (.iconst 1, 1) := by decide +kernel
theorem dX8_checkpoint_191 : decode cX8_checkpoint 191 = .ok (.if_icmp .eq 13, 3) := by decide +kernel
theorem dX8_checkpoint_194 : decode cX8_checkpoint 194 = .ok (.aload_n 0, 1) := by decide +kernel
theorem dX8_checkpoint_195 : decode cX8_checkpoint 195 = .ok (.getfield 21, 3) := by decide +kernel
theorem dX8_checkpoint_198 : decode cX8_checkpoint 198 = .ok (.iload_n 1, 1) := by decide +kernel
theorem dX8_checkpoint_199 : decode cX8_checkpoint 199 = .ok (.iaload, 1) := by decide +kernel
theorem dX8_checkpoint_200 : decode cX8_checkpoint 200 = .ok (.iconst 2, 1) := by decide +kernel
theorem dX8_checkpoint_201 : decode cX8_checkpoint 201 = .ok (.if_icmp .ne 7, 3) := by decide +kernel
theorem dX8_checkpoint_208 : decode cX8_checkpoint 208 = .ok (.iconst 0, 1) := by decide +kernel
theorem dX8_checkpoint_209 : decode cX8_checkpoint 209 = .ok (.iconst 1, 1) := by decide +kernel
theorem dX8_checkpoint_210 : decode cX8_checkpoint 210 = .ok (.invokevirtual 110, 3) := by decide +kernel
theorem dX8_checkpoint_213 : decode cX8_checkpoint 213 = .ok (.iinc 1 1, 3) := by decide +kernel
theorem dX8_checkpoint_216 : decode cX8_checkpoint 216 = .ok (.goto (-39), 3) := by decide +kernel
theorem dX8_checkpoint_219 : decode cX8_checkpoint 219 = .ok (.aload_n 0, 1) := by decide +kernel
theorem dX8_checkpoint_220 : decode cX8_checkpoint 220 = .ok (.aload_n 0, 1) := by decide +kernel
theorem dX8_checkpoint_221 : decode cX8_checkpoint 221 = .ok (.getfield 47, 3) := by decide +kernel
theorem dX8_checkpoint_224 : decode cX8_checkpoint 224 = .ok (.iconst 0, 1) := by decide +kernel
theorem dX8_checkpoint_225 : decode cX8_checkpoint 225 = .ok (.aload_n 0, 1) := by decide +kernel
theorem dX8_checkpoint_226 : decode cX8_checkpoint 226 = .ok (.getfield 69, 3) := by decide +kernel
theorem dX8_checkpoint_229 : decode cX8_checkpoint 229 = .ok (.invokestatic 84, 3) := by decide +kernel
theorem dX8_checkpoint_232 : decode cX8_checkpoint 232 = .ok (.iconst 4, 1) := by decide +kernel
theorem dX8_checkpoint_233 : decode cX8_checkpoint 233 = .ok (.invokevirtual 110, 3) := by decide +kernel
theorem dX8_checkpoint_236 : decode cX8_checkpoint 236 = .ok (.aload_n 0, 1) := by decide +kernel
theorem dX8_checkpoint_237 : decode cX8_checkpoint 237 = .ok (.getfield 69, 3) := by decide +kernel
theorem dX8_checkpoint_240 : decode cX8_checkpoint 240 = .ok (.istore_n 1, 1) := by decide +kernel
theorem dX8_checkpoint_241 : decode cX8_checkpoint 241 = .ok (.aload_n 0, 1) := by decide +kernel
theorem dX8_checkpoint_242 : decode cX8_checkpoint 242 = .ok (.getfield 69, 3) := by decide +kernel
theorem dX8_checkpoint_245 : decode cX8_checkpoint 245 = .ok (.bipush 64, 2) := by decide +kernel
theorem dX8_checkpoint_247 : decode cX8_checkpoint 247 = .ok (.irem, 1) := by decide +kernel
theorem dX8_checkpoint_248 : decode cX8_checkpoint 248 = .ok (.ifCond .eq 12, 3) := by decide +kernel
theorem dX8_checkpoint_251 : decode cX8_checkpoint 251 = .ok (.aload_n 0, 1) := by decide +kernel
theorem dX8_checkpoint_252 : decode cX8_checkpoint 252 = .ok (.iconst 0, 1) := by decide +kernel
theorem dX8_checkpoint_253 : decode cX8_checkpoint 253 = .ok (.iconst 1, 1) := by decide +kernel
theorem dX8_checkpoint_254 : decode cX8_checkpoint 254 = .ok (.invokevirtual 110, 3) := by decide +kernel
theorem dX8_checkpoint_257 : decode cX8_checkpoint 257 = .ok (.goto (-16), 3) := by decide +kernel
theorem dX8_checkpoint_260 : decode cX8_checkpoint 260 = .ok (.iconst 0, 1) := by decide +kernel
theorem dX8_checkpoint_261 : decode cX8_checkpoint 261 = .ok (.istore_n 2, 1) := by decide +kernel
theorem dX8_checkpoint_262 : decode cX8_checkpoint 262 = .ok (.iload_n 2, 1) := by decide +kernel
theorem dX8_checkpoint_263 : decode cX8_checkpoint 263 = .ok (.bipush 64, 2) := by decide +kernel
theorem dX8_checkpoint_265 : decode cX8_checkpoint 265 = .ok (.imul, 1) := by decide +kernel
theorem dX8_checkpoint_266 : decode cX8_checkpoint 266 = .ok (.iload_n 1, 1) := by decide +kernel
theorem dX8_checkpoint_267 : decode cX8_checkpoint 267 = .ok (.if_icmp .ge 41, 3) := by decide +kernel
theorem dX8_checkpoint_270 : decode cX8_checkpoint 270 = .ok (.aload_n 0, 1) := by decide +kernel
theorem dX8_checkpoint_271 : decode cX8_checkpoint 271 = .ok (.aload_n 0, 1) := by decide +kernel
theorem dX8_checkpoint_272 : decode cX8_checkpoint 272 = .ok (.getfield 47, 3) := by decide +kernel
theorem dX8_checkpoint_275 : decode cX8_checkpoint 275 = .ok (.bipush 64, 2) := by decide +kernel
theorem dX8_checkpoint_277 : decode cX8_checkpoint 277 = .ok (.iload_n 2, 1) := by decide +kernel
theorem dX8_checkpoint_278 : decode cX8_checkpoint 278 = .ok (.imul, 1) := by decide +kernel
theorem dX8_checkpoint_279 : decode cX8_checkpoint 279 = .ok (.sipush 4096, 3) := by decide +kernel
theorem dX8_checkpoint_282 : decode cX8_checkpoint 282 = .ok (.aload_n 0, 1) := by decide +kernel
theorem dX8_checkpoint_283 : decode cX8_checkpoint 283 = .ok (.getfield 62, 3) := by decide +kernel
theorem dX8_checkpoint_286 : decode cX8_checkpoint 286 = .ok (.imul, 1) := by decide +kernel
theorem dX8_checkpoint_287 : decode cX8_checkpoint 287 = .ok (.bipush 64, 2) := by decide +kernel
theorem dX8_checkpoint_289 : decode cX8_checkpoint 289 = .ok (.iload_n 2, 1) := by decide +kernel
theorem dX8_checkpoint_290 : decode cX8_checkpoint 290 = .ok (.imul, 1) := by decide +kernel
theorem dX8_checkpoint_291 : decode cX8_checkpoint 291 = .ok (.iadd, 1) := by decide +kernel
theorem dX8_checkpoint_292 : decode cX8_checkpoint 292 = .ok (.iconst 0, 1) := by decide +kernel
theorem dX8_checkpoint_293 : decode cX8_checkpoint 293 = .ok (.invokevirtual 159, 3) := by decide +kernel
theorem dX8_checkpoint_296 : decode cX8_checkpoint 296 = .ok (.ifCond .eq 6, 3) := by decide +kernel
theorem dX8_checkpoint_302 : decode cX8_checkpoint 302 = .ok (.iinc 2 1, 3) := by decide +kernel
theorem dX8_checkpoint_305 : decode cX8_checkpoint 305 = .ok (.goto (-43), 3) := by decide +kernel
theorem dX8_checkpoint_308 : decode cX8_checkpoint 308 = .ok (.aload_n 0, 1) := by decide +kernel
theorem dX8_checkpoint_309 : decode cX8_checkpoint 309 = .ok (.dup, 1) := by decide +kernel
theorem dX8_checkpoint_310 : decode cX8_checkpoint 310 = .ok (.getfield 166, 3) := by decide +kernel
theorem dX8_checkpoint_313 : decode cX8_checkpoint 313 = .ok (.iconst 1, 1) := by decide +kernel
theorem dX8_checkpoint_314 : decode cX8_checkpoint 314 = .ok (.iadd, 1) := by decide +kernel
theorem dX8_checkpoint_315 : decode cX8_checkpoint 315 = .ok (.putfield 166, 3) := by decide +kernel
theorem dX8_checkpoint_318 : decode cX8_checkpoint 318 = .ok (.aload_n 0, 1) := by decide +kernel
theorem dX8_checkpoint_319 : decode cX8_checkpoint 319 = .ok (.iconst 1, 1) := by decide +kernel
theorem dX8_checkpoint_320 : decode cX8_checkpoint 320 = .ok (.aload_n 0, 1) := by decide +kernel
theorem dX8_checkpoint_321 : decode cX8_checkpoint 321 = .ok (.getfield 62, 3) := by decide +kernel
theorem dX8_checkpoint_324 : decode cX8_checkpoint 324 = .ok (.isub, 1) := by decide +kernel
theorem dX8_checkpoint_325 : decode cX8_checkpoint 325 = .ok (.putfield 62, 3) := by decide +kernel
theorem dX8_checkpoint_328 : decode cX8_checkpoint 328 = .ok (.bipush 8, 2) := by decide +kernel
theorem dX8_checkpoint_330 : decode cX8_checkpoint 330 = .ok (.istore_n 2, 1) := by decide +kernel
theorem dX8_checkpoint_331 : decode cX8_checkpoint 331 = .ok (.iload_n 2, 1) := by decide +kernel
theorem dX8_checkpoint_332 : decode cX8_checkpoint 332 = .ok (.bipush 64, 2) := by decide +kernel
theorem dX8_checkpoint_334 : decode cX8_checkpoint 334 = .ok (.if_icmp .ge 35, 3) := by decide +kernel
theorem dX8_checkpoint_337 : decode cX8_checkpoint 337 = .ok (.aload_n 0, 1) := by decide +kernel
theorem dX8_checkpoint_338 : decode cX8_checkpoint 338 = .ok (.getfield 21, 3) := by decide +kernel
theorem dX8_checkpoint_341 : decode cX8_checkpoint 341 = .ok (.iload_n 2, 1) := by decide +kernel
theorem dX8_checkpoint_342 : decode cX8_checkpoint 342 = .ok (.aload_n 0, 1) := by decide +kernel
theorem dX8_checkpoint_343 : decode cX8_checkpoint 343 = .ok (.getfield 21, 3) := by decide +kernel
theorem dX8_checkpoint_346 : decode cX8_checkpoint 346 = .ok (.iload_n 2, 1) := by decide +kernel
theorem dX8_checkpoint_347 : decode cX8_checkpoint 347 = .ok (.iaload, 1) := by decide +kernel
theorem dX8_checkpoint_348 : decode cX8_checkpoint 348 = .ok (.iconst 3, 1) := by decide +kernel
theorem dX8_checkpoint_349 : decode cX8_checkpoint 349 = .ok (.if_icmp .ne 7, 3) := by decide +kernel
theorem dX8_checkpoint_356 : decode cX8_checkpoint 356 = .ok (.aload_n 0, 1) := by decide +kernel
theorem dX8_checkpoint_357 : decode cX8_checkpoint 357 = .ok (.getfield 21, 3) := by decide +kernel
theorem dX8_checkpoint_360 : decode cX8_checkpoint 360 = .ok (.iload_n 2, 1) := by decide +kernel
theorem dX8_checkpoint_361 : decode cX8_checkpoint 361 = .ok (.iaload, 1) := by decide +kernel
theorem dX8_checkpoint_362 : decode cX8_checkpoint 362 = .ok (.iastore, 1) := by decide +kernel
theorem dX8_checkpoint_363 : decode cX8_checkpoint 363 = .ok (.iinc 2 1, 3) := by decide +kernel
theorem dX8_checkpoint_366 : decode cX8_checkpoint 366 = .ok (.goto (-35), 3) := by decide +kernel
theorem dX8_checkpoint_369 : decode cX8_checkpoint 369 = .ok (.aload_n 0, 1) := by decide +kernel
theorem dX8_checkpoint_370 : decode cX8_checkpoint 370 = .ok (.getfield 166, 3) := by decide +kernel
theorem dX8_checkpoint_373 : decode cX8_checkpoint 373 = .ok (.ireturn, 1) := by decide +kernel
theorem dX8_keys_0 : decode cX8_keys 0 = .ok (.iconst 0, 1) := by decide +kernel
theorem dX8_keys_1 : decode cX8_keys 1 = .ok (.istore_n 1, 1) := by decide +kernel
theorem dX8_keys_2 : decode cX8_keys 2 = .ok (.iconst 0, 1) := by decide +kernel
theorem dX8_keys_3 : decode cX8_keys 3 = .ok (.istore_n 2, 1) := by decide +kernel
theorem dX8_keys_4 : decode cX8_keys 4 = .ok (.iload_n 2, 1) := by decide +kernel
theorem dX8_keys_5 : decode cX8_keys 5 = .ok (.sipush 300, 3) := by decide +kernel
theorem dX8_keys_8 : decode cX8_keys 8 = .ok (.if_icmp .ge 26, 3) := by decide +kernel
theorem dX8_keys_11 : decode cX8_keys 11 = .ok (.iload_n 1, 1) := by decide +kernel
theorem dX8_keys_12 : decode cX8_keys 12 = .ok (.aload_n 0, 1) := by decide +kernel
theorem dX8_keys_13 : decode cX8_keys 13 = .ok (.getfield 29, 3) := by decide +kernel
theorem dX8_keys_16 : decode cX8_keys 16 = .ok (.iload_n 2, 1) := by decide +kernel
theorem dX8_keys_17 : decode cX8_keys 17 = .ok (.iaload, 1) := by decide +kernel
theorem dX8_keys_18 : decode cX8_keys 18 = .ok (.ifCond .le 7, 3) := by decide +kernel
theorem dX8_keys_25 : decode cX8_keys 25 = .ok (.iconst 0, 1) := by decide +kernel
theorem dX8_keys_26 : decode cX8_keys 26 = .ok (.iadd, 1) := by decide +kernel
theorem dX8_keys_27 : decode cX8_keys 27 = .ok (.istore_n 1, 1) := by decide +kernel
theorem dX8_keys_28 : decode cX8_keys 28 = .ok (.iinc 2 1, 3) := by decide +kernel
theorem dX8_keys_31 : decode cX8_keys 31 = .ok (.goto (-27), 3) := by decide +kernel
theorem dX8_keys_34 : decode cX8_keys 34 = .ok (.iload_n 1, 1) := by decide +kernel
theorem dX8_keys_35 : decode cX8_keys 35 = .ok (.ireturn, 1) := by decide +kernel
theorem dX8_best_0 : decode cX8_best 0 = .ok (.iconst (-1), 1) := by decide +kernel
theorem dX8_best_1 : decode cX8_best 1 = .ok (.istore_n 1, 1) := by decide +kernel
theorem dX8_best_2 : decode cX8_best 2 = .ok (.lconst 0, 1) := by decide +kernel
theorem dX8_best_3 : decode cX8_best 3 = .ok (.lstore_n 2, 1) := by decide +kernel
theorem dX8_best_4 : decode cX8_best 4 = .ok (.lconst 1, 1) := by decide +kernel
theorem dX8_best_5 : decode cX8_best 5 = .ok (.lstore 4, 2) := by decide +kernel
theorem dX8_best_7 : decode cX8_best 7 = .ok (.bipush 8, 2) := by decide +kernel
theorem dX8_best_9 : decode cX8_best 9 = .ok (.istore 6, 2) := by decide +kernel
theorem dX8_best_11 : decode cX8_best 11 = .ok (.iload 6, 2) := by decide +kernel
theorem dX8_best_13 : decode cX8_best 13 = .ok (.bipush 64, 2) := by decide +kernel
theorem dX8_best_15 : decode cX8_best 15 = .ok (.if_icmp .ge 102, 3) := by decide +kernel
theorem dX8_best_18 : decode cX8_best 18 = .ok (.aload_n 0, 1) := by decide +kernel
theorem dX8_best_19 : decode cX8_best 19 = .ok (.getfield 21, 3) := by decide +kernel
theorem dX8_best_22 : decode cX8_best 22 = .ok (.iload 6, 2) := by decide +kernel
theorem dX8_best_24 : decode cX8_best 24 = .ok (.iaload, 1) := by decide +kernel
theorem dX8_best_25 : decode cX8_best 25 = .ok (.iconst 1, 1) := by decide +kernel
theorem dX8_best_26 : decode cX8_best 26 = .ok (.if_icmp .ne 85, 3) := by decide +kernel
theorem dX8_best_111 : decode cX8_best 111 = .ok (.iinc 6 1, 3) := by decide +kernel
theorem dX8_best_114 : decode cX8_best 114 = .ok (.goto (-103), 3) := by decide +kernel
theorem dX8_best_117 : decode cX8_best 117 = .ok (.iload_n 1, 1) := by decide +kernel
theorem dX8_best_118 : decode cX8_best 118 = .ok (.ireturn, 1) := by decide +kernel
theorem dX8_clean_0 : decode cX8_clean 0 = .ok (.aload_n 0, 1) := by decide +kernel
theorem dX8_clean_1 : decode cX8_clean 1 = .ok (.iconst 0, 1) := by decide +kernel
theorem dX8_clean_2 : decode cX8_clean 2 = .ok (.putfield 65, 3) := by decide +kernel
theorem dX8_clean_5 : decode cX8_clean 5 = .ok (.aload_n 0, 1) := by decide +kernel
theorem dX8_clean_6 : decode cX8_clean 6 = .ok (.getfield 132, 3) := by decide +kernel
theorem dX8_clean_9 : decode cX8_clean 9 = .ok (.ifCond .eq 6, 3) := by decide +kernel
theorem dX8_clean_15 : decode cX8_clean 15 = .ok (.iload_n 1, 1) := by decide +kernel
theorem dX8_clean_16 : decode cX8_clean 16 = .ok (.iconst 1, 1) := by decide +kernel
theorem dX8_clean_17 : decode cX8_clean 17 = .ok (.bipush 8, 2) := by decide +kernel
theorem dX8_clean_19 : decode cX8_clean 19 = .ok (.invokestatic 125, 3) := by decide +kernel
theorem dX8_clean_22 : decode cX8_clean 22 = .ok (.ifCond .ne 6, 3) := by decide +kernel
theorem dX8_clean_25 : decode cX8_clean 25 = .ok (.bipush (-2), 2) := by decide +kernel
theorem dX8_clean_27 : decode cX8_clean 27 = .ok (.ireturn, 1) := by decide +kernel
theorem dX8_clean_28 : decode cX8_clean 28 = .ok (.iconst 0, 1) := by decide +kernel
theorem dX8_clean_29 : decode cX8_clean 29 = .ok (.istore_n 2, 1) := by decide +kernel
theorem dX8_clean_30 : decode cX8_clean 30 = .ok (.iload_n 2, 1) := by decide +kernel
theorem dX8_clean_31 : decode cX8_clean 31 = .ok (.bipush 64, 2) := by decide +kernel
theorem dX8_clean_33 : decode cX8_clean 33 = .ok (.if_icmp .ge 16, 3) := by decide +kernel
theorem dX8_clean_36 : decode cX8_clean 36 = .ok (.aload_n 0, 1) := by decide +kernel
theorem dX8_clean_37 : decode cX8_clean 37 = .ok (.getfield 56, 3) := by decide +kernel
theorem dX8_clean_40 : decode cX8_clean 40 = .ok (.iload_n 2, 1) := by decide +kernel
theorem dX8_clean_41 : decode cX8_clean 41 = .ok (.iconst 0, 1) := by decide +kernel
theorem dX8_clean_42 : decode cX8_clean 42 = .ok (.bastore, 1) := by decide +kernel
theorem dX8_clean_43 : decode cX8_clean 43 = .ok (.iinc 2 1, 3) := by decide +kernel
theorem dX8_clean_46 : decode cX8_clean 46 = .ok (.goto (-16), 3) := by decide +kernel
theorem dX8_clean_49 : decode cX8_clean 49 = .ok (.iconst 0, 1) := by decide +kernel
theorem dX8_clean_50 : decode cX8_clean 50 = .ok (.istore_n 2, 1) := by decide +kernel
theorem dX8_clean_51 : decode cX8_clean 51 = .ok (.aload_n 0, 1) := by decide +kernel
theorem dX8_clean_52 : decode cX8_clean 52 = .ok (.invokevirtual 176, 3) := by decide +kernel
theorem dX8_clean_55 : decode cX8_clean 55 = .ok (.istore_n 3, 1) := by decide +kernel
theorem dX8_clean_56 : decode cX8_clean 56 = .ok (.iload_n 2, 1) := by decide +kernel
theorem dX8_clean_57 : decode cX8_clean 57 = .ok (.iload_n 1, 1) := by decide +kernel
theorem dX8_clean_58 : decode cX8_clean 58 = .ok (.if_icmp .ge 25, 3) := by decide +kernel
theorem dX8_clean_61 : decode cX8_clean 61 = .ok (.iload_n 3, 1) := by decide +kernel
theorem dX8_clean_62 : decode cX8_clean 62 = .ok (.ifCond .lt 21, 3) := by decide +kernel
theorem dX8_clean_83 : decode cX8_clean 83 = .ok (.iconst 0, 1) := by decide +kernel
theorem dX8_clean_84 : decode cX8_clean 84 = .ok (.istore 4, 2) := by decide +kernel
theorem dX8_clean_86 : decode cX8_clean 86 = .ok (.iconst 0, 1) := by decide +kernel
theorem dX8_clean_87 : decode cX8_clean 87 = .ok (.istore 5, 2) := by decide +kernel
theorem dX8_clean_89 : decode cX8_clean 89 = .ok (.iload 5, 2) := by decide +kernel
theorem dX8_clean_91 : decode cX8_clean 91 = .ok (.sipush 300, 3) := by decide +kernel
theorem dX8_clean_94 : decode cX8_clean 94 = .ok (.if_icmp .ge 146, 3) := by decide +kernel
theorem dX8_clean_97 : decode cX8_clean 97 = .ok (.aload_n 0, 1) := by decide +kernel
theorem dX8_clean_98 : decode cX8_clean 98 = .ok (.getfield 29, 3) := by decide +kernel
theorem dX8_clean_101 : decode cX8_clean 101 = .ok (.iload 5, 2) := by decide +kernel
theorem dX8_clean_103 : decode cX8_clean 103 = .ok (.iaload, 1) := by decide +kernel
theorem dX8_clean_104 : decode cX8_clean 104 = .ok (.ifCond .eq 130, 3) := by decide +kernel
theorem dX8_clean_234 : decode cX8_clean 234 = .ok (.iinc 5 1, 3) := by decide +kernel
theorem dX8_clean_237 : decode cX8_clean 237 = .ok (.goto (-148), 3) := by decide +kernel
theorem dX8_clean_240 : decode cX8_clean 240 = .ok (.iconst 0, 1) := by decide +kernel
theorem dX8_clean_241 : decode cX8_clean 241 = .ok (.istore 5, 2) := by decide +kernel
theorem dX8_clean_243 : decode cX8_clean 243 = .ok (.aload_n 0, 1) := by decide +kernel
theorem dX8_clean_244 : decode cX8_clean 244 = .ok (.getfield 87, 3) := by decide +kernel
theorem dX8_clean_247 : decode cX8_clean 247 = .ok (.ifCond .ne 9, 3) := by decide +kernel
theorem dX8_clean_250 : decode cX8_clean 250 = .ok (.sipush 1024, 3) := by decide +kernel
theorem dX8_clean_253 : decode cX8_clean 253 = .ok (.goto 7, 3) := by decide +kernel
theorem dX8_clean_260 : decode cX8_clean 260 = .ok (.istore 6, 2) := by decide +kernel
theorem dX8_clean_262 : decode cX8_clean 262 = .ok (.iconst 0, 1) := by decide +kernel
theorem dX8_clean_263 : decode cX8_clean 263 = .ok (.istore 7, 2) := by decide +kernel
theorem dX8_clean_265 : decode cX8_clean 265 = .ok (.iload 7, 2) := by decide +kernel
theorem dX8_clean_267 : decode cX8_clean 267 = .ok (.iload 4, 2) := by decide +kernel
theorem dX8_clean_269 : decode cX8_clean 269 = .ok (.if_icmp .ge 69, 3) := by decide +kernel
theorem dX8_clean_338 : decode cX8_clean 338 = .ok (.iload 5, 2) := by decide +kernel
theorem dX8_clean_340 : decode cX8_clean 340 = .ok (.aload_n 0, 1) := by decide +kernel
theorem dX8_clean_341 : decode cX8_clean 341 = .ok (.invokevirtual 136, 3) := by decide +kernel
theorem dX8_clean_344 : decode cX8_clean 344 = .ok (.if_icmp .le 6, 3) := by decide +kernel
theorem dX8_clean_350 : decode cX8_clean 350 = .ok (.iconst 0, 1) := by decide +kernel
theorem dX8_clean_351 : decode cX8_clean 351 = .ok (.istore 7, 2) := by decide +kernel
theorem dX8_clean_353 : decode cX8_clean 353 = .ok (.iload 7, 2) := by decide +kernel
theorem dX8_clean_355 : decode cX8_clean 355 = .ok (.iload 4, 2) := by decide +kernel
theorem dX8_clean_357 : decode cX8_clean 357 = .ok (.if_icmp .ge 99, 3) := by decide +kernel
theorem dX8_clean_456 : decode cX8_clean 456 = .ok (.bipush 8, 2) := by decide +kernel
theorem dX8_clean_458 : decode cX8_clean 458 = .ok (.istore 7, 2) := by decide +kernel
theorem dX8_clean_460 : decode cX8_clean 460 = .ok (.iload 7, 2) := by decide +kernel
theorem dX8_clean_462 : decode cX8_clean 462 = .ok (.bipush 64, 2) := by decide +kernel
theorem dX8_clean_464 : decode cX8_clean 464 = .ok (.if_icmp .ge 37, 3) := by decide +kernel
theorem dX8_clean_467 : decode cX8_clean 467 = .ok (.aload_n 0, 1) := by decide +kernel
theorem dX8_clean_468 : decode cX8_clean 468 = .ok (.getfield 21, 3) := by decide +kernel
theorem dX8_clean_471 : decode cX8_clean 471 = .ok (.iload 7, 2) := by decide +kernel
theorem dX8_clean_473 : decode cX8_clean 473 = .ok (.aload_n 0, 1) := by decide +kernel
theorem dX8_clean_474 : decode cX8_clean 474 = .ok (.getfield 56, 3) := by decide +kernel
theorem dX8_clean_477 : decode cX8_clean 477 = .ok (.iload 7, 2) := by decide +kernel
theorem dX8_clean_479 : decode cX8_clean 479 = .ok (.baload, 1) := by decide +kernel
theorem dX8_clean_480 : decode cX8_clean 480 = .ok (.ifCond .eq 7, 3) := by decide +kernel
theorem dX8_clean_487 : decode cX8_clean 487 = .ok (.aload_n 0, 1) := by decide +kernel
theorem dX8_clean_488 : decode cX8_clean 488 = .ok (.getfield 21, 3) := by decide +kernel
theorem dX8_clean_491 : decode cX8_clean 491 = .ok (.iload 7, 2) := by decide +kernel
theorem dX8_clean_493 : decode cX8_clean 493 = .ok (.iaload, 1) := by decide +kernel
theorem dX8_clean_494 : decode cX8_clean 494 = .ok (.iastore, 1) := by decide +kernel
theorem dX8_clean_495 : decode cX8_clean 495 = .ok (.iinc 7 1, 3) := by decide +kernel
theorem dX8_clean_498 : decode cX8_clean 498 = .ok (.goto (-38), 3) := by decide +kernel
theorem dX8_clean_501 : decode cX8_clean 501 = .ok (.iload_n 2, 1) := by decide +kernel
theorem dX8_clean_502 : decode cX8_clean 502 = .ok (.ireturn, 1) := by decide +kernel
theorem dX8_tick_0 : decode cX8_tick 0 = .ok (.aload_n 0, 1) := by decide +kernel
theorem dX8_tick_1 : decode cX8_tick 1 = .ok (.iconst 0, 1) := by decide +kernel
theorem dX8_tick_2 : decode cX8_tick 2 = .ok (.putfield 65, 3) := by decide +kernel
theorem dX8_tick_5 : decode cX8_tick 5 = .ok (.aload_n 0, 1) := by decide +kernel
theorem dX8_tick_6 : decode cX8_tick 6 = .ok (.getfield 132, 3) := by decide +kernel
theorem dX8_tick_9 : decode cX8_tick 9 = .ok (.ifCond .eq 6, 3) := by decide +kernel
theorem dX8_tick_15 : decode cX8_tick 15 = .ok (.iload_n 1, 1) := by decide +kernel
theorem dX8_tick_16 : decode cX8_tick 16 = .ok (.iconst 0, 1) := by decide +kernel
theorem dX8_tick_17 : decode cX8_tick 17 = .ok (.ldc 185, 2) := by decide +kernel
theorem dX8_tick_19 : decode cX8_tick 19 = .ok (.invokestatic 125, 3) := by decide +kernel
theorem dX8_tick_22 : decode cX8_tick 22 = .ok (.ifCond .ne 6, 3) := by decide +kernel
theorem dX8_tick_25 : decode cX8_tick 25 = .ok (.bipush (-2), 2) := by decide +kernel
theorem dX8_tick_27 : decode cX8_tick 27 = .ok (.ireturn, 1) := by decide +kernel
theorem dX8_tick_28 : decode cX8_tick 28 = .ok (.aload_n 0, 1) := by decide +kernel
theorem dX8_tick_29 : decode cX8_tick 29 = .ok (.dup, 1) := by decide +kernel
theorem dX8_tick_30 : decode cX8_tick 30 = .ok (.getfield 140, 3) := by decide +kernel
theorem dX8_tick_33 : decode cX8_tick 33 = .ok (.iload_n 1, 1) := by decide +kernel
theorem dX8_tick_34 : decode cX8_tick 34 = .ok (.iadd, 1) := by decide +kernel
theorem dX8_tick_35 : decode cX8_tick 35 = .ok (.putfield 140, 3) := by decide +kernel
theorem dX8_tick_38 : decode cX8_tick 38 = .ok (.aload_n 0, 1) := by decide +kernel
theorem dX8_tick_39 : decode cX8_tick 39 = .ok (.getfield 140, 3) := by decide +kernel
theorem dX8_tick_42 : decode cX8_tick 42 = .ok (.ireturn, 1) := by decide +kernel
theorem dX8_cut_0 : decode cX8_cut 0 = .ok (.aload_n 0, 1) := by decide +kernel
theorem dX8_cut_1 : decode cX8_cut 1 = .ok (.iconst 0, 1) := by decide +kernel
theorem dX8_cut_2 : decode cX8_cut 2 = .ok (.putfield 65, 3) := by decide +kernel
theorem dX8_cut_5 : decode cX8_cut 5 = .ok (.aload_n 0, 1) := by decide +kernel
theorem dX8_cut_6 : decode cX8_cut 6 = .ok (.getfield 132, 3) := by decide +kernel
theorem dX8_cut_9 : decode cX8_cut 9 = .ok (.ifCond .eq 6, 3) := by decide +kernel
theorem dX8_cut_15 : decode cX8_cut 15 = .ok (.iload_n 1, 1) := by decide +kernel
theorem dX8_cut_16 : decode cX8_cut 16 = .ok (.iconst 0, 1) := by decide +kernel
theorem dX8_cut_17 : decode cX8_cut 17 = .ok (.sipush 10000, 3) := by decide +kernel
theorem dX8_cut_20 : decode cX8_cut 20 = .ok (.invokestatic 125, 3) := by decide +kernel
theorem dX8_cut_23 : decode cX8_cut 23 = .ok (.ifCond .eq 13, 3) := by decide +kernel
theorem dX8_cut_26 : decode cX8_cut 26 = .ok (.iload_n 2, 1) := by decide +kernel
theorem dX8_cut_27 : decode cX8_cut 27 = .ok (.iconst 0, 1) := by decide +kernel
theorem dX8_cut_28 : decode cX8_cut 28 = .ok (.bipush 63, 2) := by decide +kernel
theorem dX8_cut_30 : decode cX8_cut 30 = .ok (.invokestatic 125, 3) := by decide +kernel
theorem dX8_cut_33 : decode cX8_cut 33 = .ok (.ifCond .ne 6, 3) := by decide +kernel
theorem dX8_cut_36 : decode cX8_cut 36 = .ok (.bipush (-2), 2) := by decide +kernel
theorem dX8_cut_38 : decode cX8_cut 38 = .ok (.ireturn, 1) := by decide +kernel
theorem dX8_cut_39 : decode cX8_cut 39 = .ok (.aload_n 0, 1) := by decide +kernel
theorem dX8_cut_40 : decode cX8_cut 40 = .ok (.iload_n 1, 1) := by decide +kernel
theorem dX8_cut_41 : decode cX8_cut 41 = .ok (.putfield 150, 3) := by decide +kernel
theorem dX8_cut_44 : decode cX8_cut 44 = .ok (.aload_n 0, 1) := by decide +kernel
theorem dX8_cut_45 : decode cX8_cut 45 = .ok (.iload_n 2, 1) := by decide +kernel
theorem dX8_cut_46 : decode cX8_cut 46 = .ok (.putfield 156, 3) := by decide +kernel
theorem dX8_cut_49 : decode cX8_cut 49 = .ok (.iconst 1, 1) := by decide +kernel
theorem dX8_cut_50 : decode cX8_cut 50 = .ok (.ireturn, 1) := by decide +kernel
theorem dX8_isRight_0 : decode cX8_isRight 0 = .ok (.sipush 4096, 3) := by decide +kernel
theorem dX8_isRight_3 : decode cX8_isRight 3 = .ok (.iload_n 1, 1) := by decide +kernel
theorem dX8_isRight_4 : decode cX8_isRight 4 = .ok (.imul, 1) := by decide +kernel
theorem dX8_isRight_5 : decode cX8_isRight 5 = .ok (.istore_n 2, 1) := by decide +kernel
theorem dX8_isRight_6 : decode cX8_isRight 6 = .ok (.aload_n 0, 1) := by decide +kernel
theorem dX8_isRight_7 : decode cX8_isRight 7 = .ok (.getfield 8, 3) := by decide +kernel
theorem dX8_isRight_10 : decode cX8_isRight 10 = .ok (.iload_n 2, 1) := by decide +kernel
theorem dX8_isRight_11 : decode cX8_isRight 11 = .ok (.bipush 21, 2) := by decide +kernel
theorem dX8_isRight_13 : decode cX8_isRight 13 = .ok (.iadd, 1) := by decide +kernel
theorem dX8_isRight_14 : decode cX8_isRight 14 = .ok (.iconst 2, 1) := by decide +kernel
theorem dX8_isRight_15 : decode cX8_isRight 15 = .ok (.invokestatic 76, 3) := by decide +kernel
theorem dX8_isRight_18 : decode cX8_isRight 18 = .ok (.istore_n 3, 1) := by decide +kernel
theorem dX8_isRight_19 : decode cX8_isRight 19 = .ok (.aload_n 0, 1) := by decide +kernel
theorem dX8_isRight_20 : decode cX8_isRight 20 = .ok (.getfield 8, 3) := by decide +kernel
theorem dX8_isRight_23 : decode cX8_isRight 23 = .ok (.iload_n 2, 1) := by decide +kernel
theorem dX8_isRight_24 : decode cX8_isRight 24 = .ok (.baload, 1) := by decide +kernel
theorem dX8_isRight_25 : decode cX8_isRight 25 = .ok (.bipush 67, 2) := by decide +kernel
theorem dX8_isRight_27 : decode cX8_isRight 27 = .ok (.if_icmp .ne 23, 3) := by decide +kernel
theorem dX8_isRight_50 : decode cX8_isRight 50 = .ok (.iconst 0, 1) := by decide +kernel
theorem dX8_isRight_51 : decode cX8_isRight 51 = .ok (.ireturn, 1) := by decide +kernel
theorem dX8_goesOn_0 : decode cX8_goesOn 0 = .ok (.bipush 8, 2) := by decide +kernel
theorem dX8_goesOn_2 : decode cX8_goesOn 2 = .ok (.istore_n 1, 1) := by decide +kernel
theorem dX8_goesOn_3 : decode cX8_goesOn 3 = .ok (.iload_n 1, 1) := by decide +kernel
theorem dX8_goesOn_4 : decode cX8_goesOn 4 = .ok (.bipush 64, 2) := by decide +kernel
theorem dX8_goesOn_6 : decode cX8_goesOn 6 = .ok (.if_icmp .ge 170, 3) := by decide +kernel
theorem dX8_goesOn_9 : decode cX8_goesOn 9 = .ok (.iload_n 1, 1) := by decide +kernel
theorem dX8_goesOn_10 : decode cX8_goesOn 10 = .ok (.iconst 0, 1) := by decide +kernel
theorem dX8_goesOn_11 : decode cX8_goesOn 11 = .ok (.invokestatic 72, 3) := by decide +kernel
theorem dX8_goesOn_14 : decode cX8_goesOn 14 = .ok (.istore_n 2, 1) := by decide +kernel
theorem dX8_goesOn_15 : decode cX8_goesOn 15 = .ok (.aload_n 0, 1) := by decide +kernel
theorem dX8_goesOn_16 : decode cX8_goesOn 16 = .ok (.getfield 21, 3) := by decide +kernel
theorem dX8_goesOn_19 : decode cX8_goesOn 19 = .ok (.iload_n 1, 1) := by decide +kernel
theorem dX8_goesOn_20 : decode cX8_goesOn 20 = .ok (.iaload, 1) := by decide +kernel
theorem dX8_goesOn_21 : decode cX8_goesOn 21 = .ok (.ifCond .ne 86, 3) := by decide +kernel
theorem dX8_goesOn_24 : decode cX8_goesOn 24 = .ok (.aload_n 0, 1) := by decide +kernel
theorem dX8_goesOn_25 : decode cX8_goesOn 25 = .ok (.getfield 14, 3) := by decide +kernel
theorem dX8_goesOn_28 : decode cX8_goesOn 28 = .ok (.iload_n 2, 1) := by decide +kernel
theorem dX8_goesOn_29 : decode cX8_goesOn 29 = .ok (.baload, 1) := by decide +kernel
theorem dX8_goesOn_30 : decode cX8_goesOn 30 = .ok (.bipush 76, 2) := by decide +kernel
theorem dX8_goesOn_32 : decode cX8_goesOn 32 = .ok (.if_icmp .ne 75, 3) := by decide +kernel
theorem dX8_goesOn_107 : decode cX8_goesOn 107 = .ok (.iconst 0, 1) := by decide +kernel
theorem dX8_goesOn_108 : decode cX8_goesOn 108 = .ok (.istore_n 3, 1) := by decide +kernel
theorem dX8_goesOn_109 : decode cX8_goesOn 109 = .ok (.iload_n 3, 1) := by decide +kernel
theorem dX8_goesOn_110 : decode cX8_goesOn 110 = .ok (.ifCond .eq 60, 3) := by decide +kernel
theorem dX8_goesOn_170 : decode cX8_goesOn 170 = .ok (.iinc 1 1, 3) := by decide +kernel
theorem dX8_goesOn_173 : decode cX8_goesOn 173 = .ok (.goto (-170), 3) := by decide +kernel
theorem dX8_goesOn_176 : decode cX8_goesOn 176 = .ok (.iconst 0, 1) := by decide +kernel
theorem dX8_goesOn_177 : decode cX8_goesOn 177 = .ok (.ireturn, 1) := by decide +kernel
theorem dX8_start_0 : decode cX8_start 0 = .ok (.aload_n 0, 1) := by decide +kernel
theorem dX8_start_1 : decode cX8_start 1 = .ok (.iconst 0, 1) := by decide +kernel
theorem dX8_start_2 : decode cX8_start 2 = .ok (.putfield 65, 3) := by decide +kernel
theorem dX8_start_5 : decode cX8_start 5 = .ok (.aload_n 0, 1) := by decide +kernel
theorem dX8_start_6 : decode cX8_start 6 = .ok (.iconst 0, 1) := by decide +kernel
theorem dX8_start_7 : decode cX8_start 7 = .ok (.putfield 132, 3) := by decide +kernel
theorem dX8_start_10 : decode cX8_start 10 = .ok (.aload_n 0, 1) := by decide +kernel
theorem dX8_start_11 : decode cX8_start 11 = .ok (.iconst 0, 1) := by decide +kernel
theorem dX8_start_12 : decode cX8_start 12 = .ok (.putfield 150, 3) := by decide +kernel
theorem dX8_start_15 : decode cX8_start 15 = .ok (.aload_n 0, 1) := by decide +kernel
theorem dX8_start_16 : decode cX8_start 16 = .ok (.iconst 0, 1) := by decide +kernel
theorem dX8_start_17 : decode cX8_start 17 = .ok (.putfield 104, 3) := by decide +kernel
theorem dX8_start_20 : decode cX8_start 20 = .ok (.iconst 0, 1) := by decide +kernel
theorem dX8_start_21 : decode cX8_start 21 = .ok (.istore_n 1, 1) := by decide +kernel
theorem dX8_start_22 : decode cX8_start 22 = .ok (.iload_n 1, 1) := by decide +kernel
theorem dX8_start_23 : decode cX8_start 23 = .ok (.ldc 7, 2) := by decide +kernel
theorem dX8_start_25 : decode cX8_start 25 = .ok (.if_icmp .ge 21, 3) := by decide +kernel
theorem dX8_start_28 : decode cX8_start 28 = .ok (.aload_n 0, 1) := by decide +kernel
theorem dX8_start_29 : decode cX8_start 29 = .ok (.getfield 14, 3) := by decide +kernel
theorem dX8_start_32 : decode cX8_start 32 = .ok (.iload_n 1, 1) := by decide +kernel
theorem dX8_start_33 : decode cX8_start 33 = .ok (.aload_n 0, 1) := by decide +kernel
theorem dX8_start_34 : decode cX8_start 34 = .ok (.getfield 8, 3) := by decide +kernel
theorem dX8_start_37 : decode cX8_start 37 = .ok (.iload_n 1, 1) := by decide +kernel
theorem dX8_start_38 : decode cX8_start 38 = .ok (.baload, 1) := by decide +kernel
theorem dX8_start_39 : decode cX8_start 39 = .ok (.bastore, 1) := by decide +kernel
theorem dX8_start_40 : decode cX8_start 40 = .ok (.iinc 1 1, 3) := by decide +kernel
theorem dX8_start_43 : decode cX8_start 43 = .ok (.goto (-21), 3) := by decide +kernel
theorem dX8_start_46 : decode cX8_start 46 = .ok (.iconst 0, 1) := by decide +kernel
theorem dX8_start_47 : decode cX8_start 47 = .ok (.istore_n 1, 1) := by decide +kernel
theorem dX8_start_48 : decode cX8_start 48 = .ok (.iload_n 1, 1) := by decide +kernel
theorem dX8_start_49 : decode cX8_start 49 = .ok (.sipush 300, 3) := by decide +kernel
theorem dX8_start_52 : decode cX8_start 52 = .ok (.if_icmp .ge 16, 3) := by decide +kernel
theorem dX8_start_55 : decode cX8_start 55 = .ok (.aload_n 0, 1) := by decide +kernel
theorem dX8_start_56 : decode cX8_start 56 = .ok (.getfield 29, 3) := by decide +kernel
theorem dX8_start_59 : decode cX8_start 59 = .ok (.iload_n 1, 1) := by decide +kernel
theorem dX8_start_60 : decode cX8_start 60 = .ok (.iconst 0, 1) := by decide +kernel
theorem dX8_start_61 : decode cX8_start 61 = .ok (.iastore, 1) := by decide +kernel
theorem dX8_start_62 : decode cX8_start 62 = .ok (.iinc 1 1, 3) := by decide +kernel
theorem dX8_start_65 : decode cX8_start 65 = .ok (.goto (-17), 3) := by decide +kernel
theorem dX8_start_68 : decode cX8_start 68 = .ok (.iconst 0, 1) := by decide +kernel
theorem dX8_start_69 : decode cX8_start 69 = .ok (.istore_n 1, 1) := by decide +kernel
theorem dX8_start_70 : decode cX8_start 70 = .ok (.iload_n 1, 1) := by decide +kernel
theorem dX8_start_71 : decode cX8_start 71 = .ok (.bipush 64, 2) := by decide +kernel
theorem dX8_start_73 : decode cX8_start 73 = .ok (.if_icmp .ge 16, 3) := by decide +kernel
theorem dX8_start_76 : decode cX8_start 76 = .ok (.aload_n 0, 1) := by decide +kernel
theorem dX8_start_77 : decode cX8_start 77 = .ok (.getfield 21, 3) := by decide +kernel
theorem dX8_start_80 : decode cX8_start 80 = .ok (.iload_n 1, 1) := by decide +kernel
theorem dX8_start_81 : decode cX8_start 81 = .ok (.iconst 0, 1) := by decide +kernel
theorem dX8_start_82 : decode cX8_start 82 = .ok (.iastore, 1) := by decide +kernel
theorem dX8_start_83 : decode cX8_start 83 = .ok (.iinc 1 1, 3) := by decide +kernel
theorem dX8_start_86 : decode cX8_start 86 = .ok (.goto (-16), 3) := by decide +kernel
theorem dX8_start_89 : decode cX8_start 89 = .ok (.aload_n 0, 1) := by decide +kernel
theorem dX8_start_90 : decode cX8_start 90 = .ok (.iconst 0, 1) := by decide +kernel
theorem dX8_start_91 : decode cX8_start 91 = .ok (.putfield 87, 3) := by decide +kernel
theorem dX8_start_94 : decode cX8_start 94 = .ok (.aload_n 0, 1) := by decide +kernel
theorem dX8_start_95 : decode cX8_start 95 = .ok (.iconst 0, 1) := by decide +kernel
theorem dX8_start_96 : decode cX8_start 96 = .ok (.putfield 90, 3) := by decide +kernel
theorem dX8_start_99 : decode cX8_start 99 = .ok (.aload_n 0, 1) := by decide +kernel
theorem dX8_start_100 : decode cX8_start 100 = .ok (.iconst 0, 1) := by decide +kernel
theorem dX8_start_101 : decode cX8_start 101 = .ok (.putfield 107, 3) := by decide +kernel
theorem dX8_start_104 : decode cX8_start 104 = .ok (.aload_n 0, 1) := by decide +kernel
theorem dX8_start_105 : decode cX8_start 105 = .ok (.iconst 1, 1) := by decide +kernel
theorem dX8_start_106 : decode cX8_start 106 = .ok (.putfield 25, 3) := by decide +kernel
theorem dX8_start_109 : decode cX8_start 109 = .ok (.aload_n 0, 1) := by decide +kernel
theorem dX8_start_110 : decode cX8_start 110 = .ok (.iconst 0, 1) := by decide +kernel
theorem dX8_start_111 : decode cX8_start 111 = .ok (.putfield 140, 3) := by decide +kernel
theorem dX8_start_114 : decode cX8_start 114 = .ok (.aload_n 0, 1) := by decide +kernel
theorem dX8_start_115 : decode cX8_start 115 = .ok (.iconst 0, 1) := by decide +kernel
theorem dX8_start_116 : decode cX8_start 116 = .ok (.putfield 166, 3) := by decide +kernel
theorem dX8_start_119 : decode cX8_start 119 = .ok (.aload_n 0, 1) := by decide +kernel
theorem dX8_start_120 : decode cX8_start 120 = .ok (.iconst 0, 1) := by decide +kernel
theorem dX8_start_121 : decode cX8_start 121 = .ok (.putfield 62, 3) := by decide +kernel
theorem dX8_start_124 : decode cX8_start 124 = .ok (.aload_n 0, 1) := by decide +kernel
theorem dX8_start_125 : decode cX8_start 125 = .ok (.iconst 0, 1) := by decide +kernel
theorem dX8_start_126 : decode cX8_start 126 = .ok (.invokevirtual 189, 3) := by decide +kernel
theorem dX8_start_129 : decode cX8_start 129 = .ok (.istore_n 1, 1) := by decide +kernel
theorem dX8_start_130 : decode cX8_start 130 = .ok (.aload_n 0, 1) := by decide +kernel
theorem dX8_start_131 : decode cX8_start 131 = .ok (.iconst 1, 1) := by decide +kernel
theorem dX8_start_132 : decode cX8_start 132 = .ok (.invokevirtual 189, 3) := by decide +kernel
theorem dX8_start_135 : decode cX8_start 135 = .ok (.istore_n 2, 1) := by decide +kernel
theorem dX8_start_136 : decode cX8_start 136 = .ok (.iload_n 1, 1) := by decide +kernel
theorem dX8_start_137 : decode cX8_start 137 = .ok (.ifCond .ne 7, 3) := by decide +kernel
theorem dX8_start_140 : decode cX8_start 140 = .ok (.iload_n 2, 1) := by decide +kernel
theorem dX8_start_141 : decode cX8_start 141 = .ok (.ifCond .eq 43, 3) := by decide +kernel
theorem dX8_start_184 : decode cX8_start 184 = .ok (.iconst 0, 1) := by decide +kernel
theorem dX8_start_185 : decode cX8_start 185 = .ok (.istore_n 3, 1) := by decide +kernel
theorem dX8_start_186 : decode cX8_start 186 = .ok (.iconst 1, 1) := by decide +kernel
theorem dX8_start_187 : decode cX8_start 187 = .ok (.istore 4, 2) := by decide +kernel
theorem dX8_start_189 : decode cX8_start 189 = .ok (.iload 4, 2) := by decide +kernel
theorem dX8_start_191 : decode cX8_start 191 = .ok (.ifCond .eq 176, 3) := by decide +kernel
theorem dX8_start_194 : decode cX8_start 194 = .ok (.aload_n 0, 1) := by decide +kernel
theorem dX8_start_195 : decode cX8_start 195 = .ok (.getfield 87, 3) := by decide +kernel
theorem dX8_start_198 : decode cX8_start 198 = .ok (.ifCond .le 160, 3) := by decide +kernel
theorem dX8_start_358 : decode cX8_start 358 = .ok (.aload_n 0, 1) := by decide +kernel
theorem dX8_start_359 : decode cX8_start 359 = .ok (.invokevirtual 196, 3) := by decide +kernel
theorem dX8_start_362 : decode cX8_start 362 = .ok (.istore 4, 2) := by decide +kernel
theorem dX8_start_364 : decode cX8_start 364 = .ok (.goto (-175), 3) := by decide +kernel
theorem dX8_start_367 : decode cX8_start 367 = .ok (.aload_n 0, 1) := by decide +kernel
theorem dX8_start_368 : decode cX8_start 368 = .ok (.getfield 90, 3) := by decide +kernel
theorem dX8_start_371 : decode cX8_start 371 = .ok (.istore 5, 2) := by decide +kernel
theorem dX8_start_373 : decode cX8_start 373 = .ok (.iload 5, 2) := by decide +kernel
theorem dX8_start_375 : decode cX8_start 375 = .ok (.sipush 1024, 3) := by decide +kernel
theorem dX8_start_378 : decode cX8_start 378 = .ok (.if_icmp .ge 31, 3) := by decide +kernel
theorem dX8_start_381 : decode cX8_start 381 = .ok (.aload_n 0, 1) := by decide +kernel
theorem dX8_start_382 : decode cX8_start 382 = .ok (.getfield 87, 3) := by decide +kernel
theorem dX8_start_385 : decode cX8_start 385 = .ok (.ifCond .le 24, 3) := by decide +kernel
theorem dX8_start_409 : decode cX8_start 409 = .ok (.bipush 8, 2) := by decide +kernel
theorem dX8_start_411 : decode cX8_start 411 = .ok (.istore 5, 2) := by decide +kernel
theorem dX8_start_413 : decode cX8_start 413 = .ok (.iload 5, 2) := by decide +kernel
theorem dX8_start_415 : decode cX8_start 415 = .ok (.bipush 64, 2) := by decide +kernel
theorem dX8_start_417 : decode cX8_start 417 = .ok (.if_icmp .ge 36, 3) := by decide +kernel
theorem dX8_start_420 : decode cX8_start 420 = .ok (.aload_n 0, 1) := by decide +kernel
theorem dX8_start_421 : decode cX8_start 421 = .ok (.getfield 50, 3) := by decide +kernel
theorem dX8_start_424 : decode cX8_start 424 = .ok (.iload 5, 2) := by decide +kernel
theorem dX8_start_426 : decode cX8_start 426 = .ok (.aload_n 0, 1) := by decide +kernel
theorem dX8_start_427 : decode cX8_start 427 = .ok (.getfield 21, 3) := by decide +kernel
theorem dX8_start_430 : decode cX8_start 430 = .ok (.iload 5, 2) := by decide +kernel
theorem dX8_start_432 : decode cX8_start 432 = .ok (.iaload, 1) := by decide +kernel
theorem dX8_start_433 : decode cX8_start 433 = .ok (.ifCond .ne 7, 3) := by decide +kernel
theorem dX8_start_436 : decode cX8_start 436 = .ok (.iconst 0, 1) := by decide +kernel
theorem dX8_start_437 : decode cX8_start 437 = .ok (.goto 9, 3) := by decide +kernel
theorem dX8_start_446 : decode cX8_start 446 = .ok (.iastore, 1) := by decide +kernel
theorem dX8_start_447 : decode cX8_start 447 = .ok (.iinc 5 1, 3) := by decide +kernel
theorem dX8_start_450 : decode cX8_start 450 = .ok (.goto (-37), 3) := by decide +kernel
theorem dX8_start_453 : decode cX8_start 453 = .ok (.iload_n 3, 1) := by decide +kernel
theorem dX8_start_454 : decode cX8_start 454 = .ok (.ireturn, 1) := by decide +kernel
theorem dX8_disk_0 : decode cX8_disk 0 = .ok (.aload_n 0, 1) := by decide +kernel
theorem dX8_disk_1 : decode cX8_disk 1 = .ok (.iconst 0, 1) := by decide +kernel
theorem dX8_disk_2 : decode cX8_disk 2 = .ok (.putfield 65, 3) := by decide +kernel
theorem dX8_disk_5 : decode cX8_disk 5 = .ok (.iload_n 1, 1) := by decide +kernel
theorem dX8_disk_6 : decode cX8_disk 6 = .ok (.iconst 0, 1) := by decide +kernel
theorem dX8_disk_7 : decode cX8_disk 7 = .ok (.bipush 63, 2) := by decide +kernel
theorem dX8_disk_9 : decode cX8_disk 9 = .ok (.invokestatic 125, 3) := by decide +kernel
theorem dX8_disk_12 : decode cX8_disk 12 = .ok (.ifCond .eq 31, 3) := by decide +kernel
theorem dX8_disk_15 : decode cX8_disk 15 = .ok (.iload_n 2, 1) := by decide +kernel
theorem dX8_disk_16 : decode cX8_disk 16 = .ok (.iconst 0, 1) := by decide +kernel
theorem dX8_disk_17 : decode cX8_disk 17 = .ok (.sipush 1023, 3) := by decide +kernel
theorem dX8_disk_20 : decode cX8_disk 20 = .ok (.invokestatic 125, 3) := by decide +kernel
theorem dX8_disk_23 : decode cX8_disk 23 = .ok (.ifCond .eq 20, 3) := by decide +kernel
theorem dX8_disk_26 : decode cX8_disk 26 = .ok (.aload_n 0, 1) := by decide +kernel
theorem dX8_disk_27 : decode cX8_disk 27 = .ok (.getfield 8, 3) := by decide +kernel
theorem dX8_disk_30 : decode cX8_disk 30 = .ok (.iload_n 1, 1) := by decide +kernel
theorem dX8_disk_31 : decode cX8_disk 31 = .ok (.iload_n 2, 1) := by decide +kernel
theorem dX8_disk_32 : decode cX8_disk 32 = .ok (.invokestatic 72, 3) := by decide +kernel
theorem dX8_disk_35 : decode cX8_disk 35 = .ok (.baload, 1) := by decide +kernel
theorem dX8_disk_36 : decode cX8_disk 36 = .ok (.sipush 255, 3) := by decide +kernel
theorem dX8_disk_39 : decode cX8_disk 39 = .ok (.iand, 1) := by decide +kernel
theorem dX8_disk_40 : decode cX8_disk 40 = .ok (.goto 4, 3) := by decide +kernel
theorem dX8_disk_43 : decode cX8_disk 43 = .ok (.iconst (-1), 1) := by decide +kernel
theorem dX8_disk_44 : decode cX8_disk 44 = .ok (.ireturn, 1) := by decide +kernel
theorem dX8_poke_0 : decode cX8_poke 0 = .ok (.aload_n 0, 1) := by decide +kernel
theorem dX8_poke_1 : decode cX8_poke 1 = .ok (.iconst 0, 1) := by decide +kernel
theorem dX8_poke_2 : decode cX8_poke 2 = .ok (.putfield 65, 3) := by decide +kernel
theorem dX8_poke_5 : decode cX8_poke 5 = .ok (.iload_n 1, 1) := by decide +kernel
theorem dX8_poke_6 : decode cX8_poke 6 = .ok (.iconst 0, 1) := by decide +kernel
theorem dX8_poke_7 : decode cX8_poke 7 = .ok (.bipush 63, 2) := by decide +kernel
theorem dX8_poke_9 : decode cX8_poke 9 = .ok (.invokestatic 125, 3) := by decide +kernel
theorem dX8_poke_12 : decode cX8_poke 12 = .ok (.ifCond .eq 14, 3) := by decide +kernel
theorem dX8_poke_15 : decode cX8_poke 15 = .ok (.iload_n 2, 1) := by decide +kernel
theorem dX8_poke_16 : decode cX8_poke 16 = .ok (.iconst 0, 1) := by decide +kernel
theorem dX8_poke_17 : decode cX8_poke 17 = .ok (.sipush 1023, 3) := by decide +kernel
theorem dX8_poke_20 : decode cX8_poke 20 = .ok (.invokestatic 125, 3) := by decide +kernel
theorem dX8_poke_23 : decode cX8_poke 23 = .ok (.ifCond .ne 5, 3) := by decide +kernel
theorem dX8_poke_26 : decode cX8_poke 26 = .ok (.iconst (-1), 1) := by decide +kernel
theorem dX8_poke_27 : decode cX8_poke 27 = .ok (.ireturn, 1) := by decide +kernel
theorem dX8_poke_28 : decode cX8_poke 28 = .ok (.iload_n 3, 1) := by decide +kernel
theorem dX8_poke_29 : decode cX8_poke 29 = .ok (.iconst 0, 1) := by decide +kernel
theorem dX8_poke_30 : decode cX8_poke 30 = .ok (.sipush 255, 3) := by decide +kernel
theorem dX8_poke_33 : decode cX8_poke 33 = .ok (.invokestatic 125, 3) := by decide +kernel
theorem dX8_poke_36 : decode cX8_poke 36 = .ok (.ifCond .ne 6, 3) := by decide +kernel
theorem dX8_poke_39 : decode cX8_poke 39 = .ok (.bipush (-2), 2) := by decide +kernel
theorem dX8_poke_41 : decode cX8_poke 41 = .ok (.ireturn, 1) := by decide +kernel
theorem dX8_poke_42 : decode cX8_poke 42 = .ok (.aload_n 0, 1) := by decide +kernel
theorem dX8_poke_43 : decode cX8_poke 43 = .ok (.getfield 8, 3) := by decide +kernel
theorem dX8_poke_46 : decode cX8_poke 46 = .ok (.iload_n 1, 1) := by decide +kernel
theorem dX8_poke_47 : decode cX8_poke 47 = .ok (.iload_n 2, 1) := by decide +kernel
theorem dX8_poke_48 : decode cX8_poke 48 = .ok (.invokestatic 72, 3) := by decide +kernel
theorem dX8_poke_51 : decode cX8_poke 51 = .ok (.dup2, 1) := by decide +kernel
theorem dX8_poke_52 : decode cX8_poke 52 = .ok (.baload, 1) := by decide +kernel
theorem dX8_poke_53 : decode cX8_poke 53 = .ok (.iload_n 3, 1) := by decide +kernel
theorem dX8_poke_54 : decode cX8_poke 54 = .ok (.i2b, 1) := by decide +kernel
theorem dX8_poke_55 : decode cX8_poke 55 = .ok (.ixor, 1) := by decide +kernel
theorem dX8_poke_56 : decode cX8_poke 56 = .ok (.i2b, 1) := by decide +kernel
theorem dX8_poke_57 : decode cX8_poke 57 = .ok (.bastore, 1) := by decide +kernel
theorem dX8_poke_58 : decode cX8_poke 58 = .ok (.aload_n 0, 1) := by decide +kernel
theorem dX8_poke_59 : decode cX8_poke 59 = .ok (.getfield 8, 3) := by decide +kernel
theorem dX8_poke_62 : decode cX8_poke 62 = .ok (.iload_n 1, 1) := by decide +kernel
theorem dX8_poke_63 : decode cX8_poke 63 = .ok (.iload_n 2, 1) := by decide +kernel
theorem dX8_poke_64 : decode cX8_poke 64 = .ok (.invokestatic 72, 3) := by decide +kernel
theorem dX8_poke_67 : decode cX8_poke 67 = .ok (.baload, 1) := by decide +kernel
theorem dX8_poke_68 : decode cX8_poke 68 = .ok (.sipush 255, 3) := by decide +kernel
theorem dX8_poke_71 : decode cX8_poke 71 = .ok (.iand, 1) := by decide +kernel
theorem dX8_poke_72 : decode cX8_poke 72 = .ok (.ireturn, 1) := by decide +kernel
theorem dX8_segment_0 : decode cX8_segment 0 = .ok (.aload_n 0, 1) := by decide +kernel
theorem dX8_segment_1 : decode cX8_segment 1 = .ok (.iconst 0, 1) := by decide +kernel
theorem dX8_segment_2 : decode cX8_segment 2 = .ok (.putfield 65, 3) := by decide +kernel
theorem dX8_segment_5 : decode cX8_segment 5 = .ok (.aload_n 0, 1) := by decide +kernel
theorem dX8_segment_6 : decode cX8_segment 6 = .ok (.getfield 132, 3) := by decide +kernel
theorem dX8_segment_9 : decode cX8_segment 9 = .ok (.ifCond .eq 6, 3) := by decide +kernel
theorem dX8_segment_15 : decode cX8_segment 15 = .ok (.iload_n 1, 1) := by decide +kernel
theorem dX8_segment_16 : decode cX8_segment 16 = .ok (.bipush 8, 2) := by decide +kernel
theorem dX8_segment_18 : decode cX8_segment 18 = .ok (.bipush 63, 2) := by decide +kernel
theorem dX8_segment_20 : decode cX8_segment 20 = .ok (.invokestatic 125, 3) := by decide +kernel
theorem dX8_segment_23 : decode cX8_segment 23 = .ok (.ifCond .ne 5, 3) := by decide +kernel
theorem dX8_segment_26 : decode cX8_segment 26 = .ok (.iconst (-1), 1) := by decide +kernel
theorem dX8_segment_27 : decode cX8_segment 27 = .ok (.ireturn, 1) := by decide +kernel
theorem dX8_segment_28 : decode cX8_segment 28 = .ok (.iload_n 2, 1) := by decide +kernel
theorem dX8_segment_29 : decode cX8_segment 29 = .ok (.iconst 0, 1) := by decide +kernel
theorem dX8_segment_30 : decode cX8_segment 30 = .ok (.iconst 3, 1) := by decide +kernel
theorem dX8_segment_31 : decode cX8_segment 31 = .ok (.invokestatic 125, 3) := by decide +kernel
theorem dX8_segment_34 : decode cX8_segment 34 = .ok (.ifCond .ne 6, 3) := by decide +kernel
theorem dX8_segment_37 : decode cX8_segment 37 = .ok (.bipush (-2), 2) := by decide +kernel
theorem dX8_segment_39 : decode cX8_segment 39 = .ok (.ireturn, 1) := by decide +kernel
theorem dX8_segment_40 : decode cX8_segment 40 = .ok (.iload_n 2, 1) := by decide +kernel
theorem dX8_segment_41 : decode cX8_segment 41 = .ok (.ifCond .ne 10, 3) := by decide +kernel
theorem dX8_segment_44 : decode cX8_segment 44 = .ok (.aload_n 0, 1) := by decide +kernel
theorem dX8_segment_45 : decode cX8_segment 45 = .ok (.getfield 21, 3) := by decide +kernel
theorem dX8_segment_48 : decode cX8_segment 48 = .ok (.iload_n 1, 1) := by decide +kernel
theorem dX8_segment_49 : decode cX8_segment 49 = .ok (.iaload, 1) := by decide +kernel
theorem dX8_segment_50 : decode cX8_segment 50 = .ok (.ireturn, 1) := by decide +kernel
theorem dX8_segment_51 : decode cX8_segment 51 = .ok (.aload_n 0, 1) := by decide +kernel
theorem dX8_segment_52 : decode cX8_segment 52 = .ok (.getfield 21, 3) := by decide +kernel
theorem dX8_segment_55 : decode cX8_segment 55 = .ok (.iload_n 1, 1) := by decide +kernel
theorem dX8_segment_56 : decode cX8_segment 56 = .ok (.iaload, 1) := by decide +kernel
theorem dX8_segment_57 : decode cX8_segment 57 = .ok (.ifCond .eq 13, 3) := by decide +kernel
theorem dX8_segment_70 : decode cX8_segment 70 = .ok (.iconst 0, 1) := by decide +kernel
theorem dX8_segment_71 : decode cX8_segment 71 = .ok (.ireturn, 1) := by decide +kernel
theorem dX8_where_0 : decode cX8_where 0 = .ok (.aload_n 0, 1) := by decide +kernel
theorem dX8_where_1 : decode cX8_where 1 = .ok (.iconst 0, 1) := by decide +kernel
theorem dX8_where_2 : decode cX8_where 2 = .ok (.putfield 65, 3) := by decide +kernel
theorem dX8_where_5 : decode cX8_where 5 = .ok (.aload_n 0, 1) := by decide +kernel
theorem dX8_where_6 : decode cX8_where 6 = .ok (.getfield 132, 3) := by decide +kernel
theorem dX8_where_9 : decode cX8_where 9 = .ok (.ifCond .eq 6, 3) := by decide +kernel
theorem dX8_where_15 : decode cX8_where 15 = .ok (.aload_n 0, 1) := by decide +kernel
theorem dX8_where_16 : decode cX8_where 16 = .ok (.iload_n 1, 1) := by decide +kernel
theorem dX8_where_17 : decode cX8_where 17 = .ok (.invokevirtual 147, 3) := by decide +kernel
theorem dX8_where_20 : decode cX8_where 20 = .ok (.ifCond .eq 5, 3) := by decide +kernel
theorem dX8_where_23 : decode cX8_where 23 = .ok (.iconst (-1), 1) := by decide +kernel
theorem dX8_where_24 : decode cX8_where 24 = .ok (.ireturn, 1) := by decide +kernel
theorem dX8_told_0 : decode cX8_told 0 = .ok (.aload_n 0, 1) := by decide +kernel
theorem dX8_told_1 : decode cX8_told 1 = .ok (.iconst 0, 1) := by decide +kernel
theorem dX8_told_2 : decode cX8_told 2 = .ok (.putfield 65, 3) := by decide +kernel
theorem dX8_told_5 : decode cX8_told 5 = .ok (.iload_n 1, 1) := by decide +kernel
theorem dX8_told_6 : decode cX8_told 6 = .ok (.iconst 0, 1) := by decide +kernel
theorem dX8_told_7 : decode cX8_told 7 = .ok (.bipush 9, 2) := by decide +kernel
theorem dX8_told_9 : decode cX8_told 9 = .ok (.invokestatic 125, 3) := by decide +kernel
theorem dX8_told_12 : decode cX8_told 12 = .ok (.ifCond .ne 6, 3) := by decide +kernel
theorem dX8_told_15 : decode cX8_told 15 = .ok (.bipush (-2), 2) := by decide +kernel
theorem dX8_told_17 : decode cX8_told 17 = .ok (.ireturn, 1) := by decide +kernel
theorem dX8_told_18 : decode cX8_told 18 = .ok (.iload_n 1, 1) := by decide +kernel
theorem dX8_told_19 : decode cX8_told 19 = .ok (.bipush 7, 2) := by decide +kernel
theorem dX8_told_21 : decode cX8_told 21 = .ok (.if_icmp .le 29, 3) := by decide +kernel
theorem dX8_told_24 : decode cX8_told 24 = .ok (.iload_n 1, 1) := by decide +kernel
theorem dX8_told_25 : decode cX8_told 25 = .ok (.bipush 8, 2) := by decide +kernel
theorem dX8_told_27 : decode cX8_told 27 = .ok (.if_icmp .ne 10, 3) := by decide +kernel
theorem dX8_told_30 : decode cX8_told 30 = .ok (.aload_n 0, 1) := by decide +kernel
theorem dX8_told_31 : decode cX8_told 31 = .ok (.getfield 153, 3) := by decide +kernel
theorem dX8_told_34 : decode cX8_told 34 = .ok (.goto 15, 3) := by decide +kernel
theorem dX8_told_37 : decode cX8_told 37 = .ok (.aload_n 0, 1) := by decide +kernel
theorem dX8_told_38 : decode cX8_told 38 = .ok (.getfield 132, 3) := by decide +kernel
theorem dX8_told_41 : decode cX8_told 41 = .ok (.ifCond .eq 7, 3) := by decide +kernel
theorem dX8_told_48 : decode cX8_told 48 = .ok (.iconst 0, 1) := by decide +kernel
theorem dX8_told_49 : decode cX8_told 49 = .ok (.ireturn, 1) := by decide +kernel
theorem dX8_told_50 : decode cX8_told 50 = .ok (.aload_n 0, 1) := by decide +kernel
theorem dX8_told_51 : decode cX8_told 51 = .ok (.getfield 132, 3) := by decide +kernel
theorem dX8_told_54 : decode cX8_told 54 = .ok (.ifCond .eq 5, 3) := by decide +kernel
theorem dX8_told_59 : decode cX8_told 59 = .ok (.iload_n 1, 1) := by decide +kernel
theorem dX8_told_60 : decode cX8_told 60 = .ok (.tableswitch 121 0 6 #[44, 49, 54, 59, 75, 80, 85], 44) := by decide +kernel
theorem dX8_told_104 : decode cX8_told 104 = .ok (.aload_n 0, 1) := by decide +kernel
theorem dX8_told_105 : decode cX8_told 105 = .ok (.getfield 25, 3) := by decide +kernel
theorem dX8_told_108 : decode cX8_told 108 = .ok (.ireturn, 1) := by decide +kernel
theorem dX8_told_109 : decode cX8_told 109 = .ok (.aload_n 0, 1) := by decide +kernel
theorem dX8_told_110 : decode cX8_told 110 = .ok (.getfield 140, 3) := by decide +kernel
theorem dX8_told_113 : decode cX8_told 113 = .ok (.ireturn, 1) := by decide +kernel
theorem dX8_told_114 : decode cX8_told 114 = .ok (.aload_n 0, 1) := by decide +kernel
theorem dX8_told_115 : decode cX8_told 115 = .ok (.getfield 87, 3) := by decide +kernel
theorem dX8_told_118 : decode cX8_told 118 = .ok (.ireturn, 1) := by decide +kernel
theorem dX8_told_119 : decode cX8_told 119 = .ok (.aload_n 0, 1) := by decide +kernel
theorem dX8_told_120 : decode cX8_told 120 = .ok (.getfield 87, 3) := by decide +kernel
theorem dX8_told_123 : decode cX8_told 123 = .ok (.ifCond .ne 7, 3) := by decide +kernel
theorem dX8_told_126 : decode cX8_told 126 = .ok (.iconst 0, 1) := by decide +kernel
theorem dX8_told_127 : decode cX8_told 127 = .ok (.goto 7, 3) := by decide +kernel
theorem dX8_told_134 : decode cX8_told 134 = .ok (.ireturn, 1) := by decide +kernel
theorem dX8_told_135 : decode cX8_told 135 = .ok (.aload_n 0, 1) := by decide +kernel
theorem dX8_told_136 : decode cX8_told 136 = .ok (.invokevirtual 136, 3) := by decide +kernel
theorem dX8_told_139 : decode cX8_told 139 = .ok (.ireturn, 1) := by decide +kernel
theorem dX8_told_140 : decode cX8_told 140 = .ok (.aload_n 0, 1) := by decide +kernel
theorem dX8_told_141 : decode cX8_told 141 = .ok (.invokevirtual 168, 3) := by decide +kernel
theorem dX8_told_144 : decode cX8_told 144 = .ok (.ireturn, 1) := by decide +kernel
theorem dX8_told_145 : decode cX8_told 145 = .ok (.iconst 0, 1) := by decide +kernel
theorem dX8_told_146 : decode cX8_told 146 = .ok (.istore_n 2, 1) := by decide +kernel
theorem dX8_told_147 : decode cX8_told 147 = .ok (.iconst 0, 1) := by decide +kernel
theorem dX8_told_148 : decode cX8_told 148 = .ok (.istore_n 3, 1) := by decide +kernel
theorem dX8_told_149 : decode cX8_told 149 = .ok (.iload_n 3, 1) := by decide +kernel
theorem dX8_told_150 : decode cX8_told 150 = .ok (.aload_n 0, 1) := by decide +kernel
theorem dX8_told_151 : decode cX8_told 151 = .ok (.getfield 104, 3) := by decide +kernel
theorem dX8_told_154 : decode cX8_told 154 = .ok (.if_icmp .ge 25, 3) := by decide +kernel
theorem dX8_told_179 : decode cX8_told 179 = .ok (.iload_n 2, 1) := by decide +kernel
theorem dX8_told_180 : decode cX8_told 180 = .ok (.ireturn, 1) := by decide +kernel
theorem dX8_told_181 : decode cX8_told 181 = .ok (.aload_n 0, 1) := by decide +kernel
theorem dX8_told_182 : decode cX8_told 182 = .ok (.getfield 166, 3) := by decide +kernel
theorem dX8_told_185 : decode cX8_told 185 = .ok (.ireturn, 1) := by decide +kernel
theorem dJ6_rotateLeft_7cf53_0 : decode cJ6_rotateLeft_7cf53 0 = .ok (.iload_n 0, 1) := by decide +kernel
theorem dJ6_rotateLeft_7cf53_1 : decode cJ6_rotateLeft_7cf53 1 = .ok (.iload_n 1, 1) := by decide +kernel
theorem dJ6_rotateLeft_7cf53_2 : decode cJ6_rotateLeft_7cf53 2 = .ok (.ishl, 1) := by decide +kernel
theorem dJ6_rotateLeft_7cf53_3 : decode cJ6_rotateLeft_7cf53 3 = .ok (.iload_n 0, 1) := by decide +kernel
theorem dJ6_rotateLeft_7cf53_4 : decode cJ6_rotateLeft_7cf53 4 = .ok (.iload_n 1, 1) := by decide +kernel
theorem dJ6_rotateLeft_7cf53_5 : decode cJ6_rotateLeft_7cf53 5 = .ok (.ineg, 1) := by decide +kernel
theorem dJ6_rotateLeft_7cf53_6 : decode cJ6_rotateLeft_7cf53 6 = .ok (.iushr, 1) := by decide +kernel
theorem dJ6_rotateLeft_7cf53_7 : decode cJ6_rotateLeft_7cf53 7 = .ok (.ior, 1) := by decide +kernel
theorem dJ6_rotateLeft_7cf53_8 : decode cJ6_rotateLeft_7cf53 8 = .ok (.ireturn, 1) := by decide +kernel
theorem dJ7_fill_53178_0 : decode cJ7_fill_53178 0 = .ok (.iconst 0, 1) := by decide +kernel
theorem dJ7_fill_53178_1 : decode cJ7_fill_53178 1 = .ok (.istore_n 2, 1) := by decide +kernel
theorem dJ7_fill_53178_2 : decode cJ7_fill_53178 2 = .ok (.aload_n 0, 1) := by decide +kernel
theorem dJ7_fill_53178_3 : decode cJ7_fill_53178 3 = .ok (.arraylength, 1) := by decide +kernel
theorem dJ7_fill_53178_4 : decode cJ7_fill_53178 4 = .ok (.istore_n 3, 1) := by decide +kernel
theorem dJ7_fill_53178_5 : decode cJ7_fill_53178 5 = .ok (.iload_n 2, 1) := by decide +kernel
theorem dJ7_fill_53178_6 : decode cJ7_fill_53178 6 = .ok (.iload_n 3, 1) := by decide +kernel
theorem dJ7_fill_53178_7 : decode cJ7_fill_53178 7 = .ok (.if_icmp .ge 13, 3) := by decide +kernel
theorem dJ7_fill_53178_10 : decode cJ7_fill_53178 10 = .ok (.aload_n 0, 1) := by decide +kernel
theorem dJ7_fill_53178_11 : decode cJ7_fill_53178 11 = .ok (.iload_n 2, 1) := by decide +kernel
theorem dJ7_fill_53178_12 : decode cJ7_fill_53178 12 = .ok (.iload_n 1, 1) := by decide +kernel
theorem dJ7_fill_53178_13 : decode cJ7_fill_53178 13 = .ok (.iastore, 1) := by decide +kernel
theorem dJ7_fill_53178_14 : decode cJ7_fill_53178 14 = .ok (.iinc 2 1, 3) := by decide +kernel
theorem dJ7_fill_53178_17 : decode cJ7_fill_53178 17 = .ok (.goto (-12), 3) := by decide +kernel
theorem dJ7_fill_53178_20 : decode cJ7_fill_53178 20 = .ok (.return_, 1) := by decide +kernel
theorem dJ7_fill_031fb_0 : decode cJ7_fill_031fb 0 = .ok (.iconst 0, 1) := by decide +kernel
theorem dJ7_fill_031fb_1 : decode cJ7_fill_031fb 1 = .ok (.istore_n 2, 1) := by decide +kernel
theorem dJ7_fill_031fb_2 : decode cJ7_fill_031fb 2 = .ok (.aload_n 0, 1) := by decide +kernel
theorem dJ7_fill_031fb_3 : decode cJ7_fill_031fb 3 = .ok (.arraylength, 1) := by decide +kernel
theorem dJ7_fill_031fb_4 : decode cJ7_fill_031fb 4 = .ok (.istore_n 3, 1) := by decide +kernel
theorem dJ7_fill_031fb_5 : decode cJ7_fill_031fb 5 = .ok (.iload_n 2, 1) := by decide +kernel
theorem dJ7_fill_031fb_6 : decode cJ7_fill_031fb 6 = .ok (.iload_n 3, 1) := by decide +kernel
theorem dJ7_fill_031fb_7 : decode cJ7_fill_031fb 7 = .ok (.if_icmp .ge 13, 3) := by decide +kernel
theorem dJ7_fill_031fb_10 : decode cJ7_fill_031fb 10 = .ok (.aload_n 0, 1) := by decide +kernel
theorem dJ7_fill_031fb_11 : decode cJ7_fill_031fb 11 = .ok (.iload_n 2, 1) := by decide +kernel
theorem dJ7_fill_031fb_12 : decode cJ7_fill_031fb 12 = .ok (.iload_n 1, 1) := by decide +kernel
theorem dJ7_fill_031fb_13 : decode cJ7_fill_031fb 13 = .ok (.bastore, 1) := by decide +kernel
theorem dJ7_fill_031fb_14 : decode cJ7_fill_031fb 14 = .ok (.iinc 2 1, 3) := by decide +kernel
theorem dJ7_fill_031fb_17 : decode cJ7_fill_031fb 17 = .ok (.goto (-12), 3) := by decide +kernel
theorem dJ7_fill_031fb_20 : decode cJ7_fill_031fb 20 = .ok (.return_, 1) := by decide +kernel
theorem dL_law_0 : decode cL_law 0 = .ok (.new 7, 3) := by decide +kernel
theorem dL_law_3 : decode cL_law 3 = .ok (.dup, 1) := by decide +kernel
theorem dL_law_4 : decode cL_law 4 = .ok (.invokespecial 9, 3) := by decide +kernel
theorem dL_law_7 : decode cL_law 7 = .ok (.astore_n 1, 1) := by decide +kernel
theorem dL_law_8 : decode cL_law 8 = .ok (.new 10, 3) := by decide +kernel
theorem dL_law_11 : decode cL_law 11 = .ok (.dup, 1) := by decide +kernel
theorem dL_law_12 : decode cL_law 12 = .ok (.invokespecial 12, 3) := by decide +kernel
theorem dL_law_15 : decode cL_law 15 = .ok (.astore_n 2, 1) := by decide +kernel
theorem dL_law_16 : decode cL_law 16 = .ok (.iconst 0, 1) := by decide +kernel
theorem dL_law_17 : decode cL_law 17 = .ok (.istore_n 3, 1) := by decide +kernel
theorem dL_law_18 : decode cL_law 18 = .ok (.iload_n 3, 1) := by decide +kernel
theorem dL_law_19 : decode cL_law 19 = .ok (.aload_n 0, 1) := by decide +kernel
theorem dL_law_20 : decode cL_law 20 = .ok (.arraylength, 1) := by decide +kernel
theorem dL_law_21 : decode cL_law 21 = .ok (.iconst 4, 1) := by decide +kernel
theorem dL_law_22 : decode cL_law 22 = .ok (.isub, 1) := by decide +kernel
theorem dL_law_23 : decode cL_law 23 = .ok (.if_icmp .gt 543, 3) := by decide +kernel
theorem dL_law_26 : decode cL_law 26 = .ok (.aload_n 0, 1) := by decide +kernel
theorem dL_law_27 : decode cL_law 27 = .ok (.iload_n 3, 1) := by decide +kernel
theorem dL_law_28 : decode cL_law 28 = .ok (.iaload, 1) := by decide +kernel
theorem dL_law_29 : decode cL_law 29 = .ok (.bipush 15, 2) := by decide +kernel
theorem dL_law_31 : decode cL_law 31 = .ok (.iand, 1) := by decide +kernel
theorem dL_law_32 : decode cL_law 32 = .ok (.tableswitch 528 0 15 #[80, 143, 166, 189, 212, 245, 258, 271, 294, 317, 350, 363, 396, 439, 472, 505], 80) := by decide +kernel
theorem dL_law_112 : decode cL_law 112 = .ok (.aload_n 1, 1) := by decide +kernel
theorem dL_law_113 : decode cL_law 113 = .ok (.aload_n 0, 1) := by decide +kernel
theorem dL_law_114 : decode cL_law 114 = .ok (.iload_n 3, 1) := by decide +kernel
theorem dL_law_115 : decode cL_law 115 = .ok (.iconst 1, 1) := by decide +kernel
theorem dL_law_116 : decode cL_law 116 = .ok (.iadd, 1) := by decide +kernel
theorem dL_law_117 : decode cL_law 117 = .ok (.iaload, 1) := by decide +kernel
theorem dL_law_118 : decode cL_law 118 = .ok (.i2l, 1) := by decide +kernel
theorem dL_law_119 : decode cL_law 119 = .ok (.bipush 32, 2) := by decide +kernel
theorem dL_law_121 : decode cL_law 121 = .ok (.lshl, 1) := by decide +kernel
theorem dL_law_122 : decode cL_law 122 = .ok (.aload_n 0, 1) := by decide +kernel
theorem dL_law_123 : decode cL_law 123 = .ok (.iload_n 3, 1) := by decide +kernel
theorem dL_law_124 : decode cL_law 124 = .ok (.iconst 2, 1) := by decide +kernel
theorem dL_law_125 : decode cL_law 125 = .ok (.iadd, 1) := by decide +kernel
theorem dL_law_126 : decode cL_law 126 = .ok (.iaload, 1) := by decide +kernel
theorem dL_law_127 : decode cL_law 127 = .ok (.i2l, 1) := by decide +kernel
theorem dL_law_128 : decode cL_law 128 = .ok (.ldc2_w 13, 3) := by decide +kernel
theorem dL_law_131 : decode cL_law 131 = .ok (.land, 1) := by decide +kernel
theorem dL_law_132 : decode cL_law 132 = .ok (.lor, 1) := by decide +kernel
theorem dL_law_133 : decode cL_law 133 = .ok (.aload_n 0, 1) := by decide +kernel
theorem dL_law_134 : decode cL_law 134 = .ok (.iload_n 3, 1) := by decide +kernel
theorem dL_law_135 : decode cL_law 135 = .ok (.iconst 3, 1) := by decide +kernel
theorem dL_law_136 : decode cL_law 136 = .ok (.iadd, 1) := by decide +kernel
theorem dL_law_137 : decode cL_law 137 = .ok (.iaload, 1) := by decide +kernel
theorem dL_law_138 : decode cL_law 138 = .ok (.invokevirtual 15, 3) := by decide +kernel
theorem dL_law_141 : decode cL_law 141 = .ok (.aload_n 2, 1) := by decide +kernel
theorem dL_law_142 : decode cL_law 142 = .ok (.aload_n 0, 1) := by decide +kernel
theorem dL_law_143 : decode cL_law 143 = .ok (.iload_n 3, 1) := by decide +kernel
theorem dL_law_144 : decode cL_law 144 = .ok (.iconst 1, 1) := by decide +kernel
theorem dL_law_145 : decode cL_law 145 = .ok (.iadd, 1) := by decide +kernel
theorem dL_law_146 : decode cL_law 146 = .ok (.iaload, 1) := by decide +kernel
theorem dL_law_147 : decode cL_law 147 = .ok (.i2l, 1) := by decide +kernel
theorem dL_law_148 : decode cL_law 148 = .ok (.bipush 32, 2) := by decide +kernel
theorem dL_law_150 : decode cL_law 150 = .ok (.lshl, 1) := by decide +kernel
theorem dL_law_151 : decode cL_law 151 = .ok (.aload_n 0, 1) := by decide +kernel
theorem dL_law_152 : decode cL_law 152 = .ok (.iload_n 3, 1) := by decide +kernel
theorem dL_law_153 : decode cL_law 153 = .ok (.iconst 2, 1) := by decide +kernel
theorem dL_law_154 : decode cL_law 154 = .ok (.iadd, 1) := by decide +kernel
theorem dL_law_155 : decode cL_law 155 = .ok (.iaload, 1) := by decide +kernel
theorem dL_law_156 : decode cL_law 156 = .ok (.i2l, 1) := by decide +kernel
theorem dL_law_157 : decode cL_law 157 = .ok (.ldc2_w 13, 3) := by decide +kernel
theorem dL_law_160 : decode cL_law 160 = .ok (.land, 1) := by decide +kernel
theorem dL_law_161 : decode cL_law 161 = .ok (.lor, 1) := by decide +kernel
theorem dL_law_162 : decode cL_law 162 = .ok (.aload_n 0, 1) := by decide +kernel
theorem dL_law_163 : decode cL_law 163 = .ok (.iload_n 3, 1) := by decide +kernel
theorem dL_law_164 : decode cL_law 164 = .ok (.iconst 3, 1) := by decide +kernel
theorem dL_law_165 : decode cL_law 165 = .ok (.iadd, 1) := by decide +kernel
theorem dL_law_166 : decode cL_law 166 = .ok (.iaload, 1) := by decide +kernel
theorem dL_law_167 : decode cL_law 167 = .ok (.invokevirtual 19, 3) := by decide +kernel
theorem dL_law_170 : decode cL_law 170 = .ok (.if_icmp .eq 390, 3) := by decide +kernel
theorem dL_law_175 : decode cL_law 175 = .ok (.aload_n 1, 1) := by decide +kernel
theorem dL_law_176 : decode cL_law 176 = .ok (.aload_n 0, 1) := by decide +kernel
theorem dL_law_177 : decode cL_law 177 = .ok (.iload_n 3, 1) := by decide +kernel
theorem dL_law_178 : decode cL_law 178 = .ok (.iconst 1, 1) := by decide +kernel
theorem dL_law_179 : decode cL_law 179 = .ok (.iadd, 1) := by decide +kernel
theorem dL_law_180 : decode cL_law 180 = .ok (.iaload, 1) := by decide +kernel
theorem dL_law_181 : decode cL_law 181 = .ok (.invokevirtual 20, 3) := by decide +kernel
theorem dL_law_184 : decode cL_law 184 = .ok (.aload_n 2, 1) := by decide +kernel
theorem dL_law_185 : decode cL_law 185 = .ok (.aload_n 0, 1) := by decide +kernel
theorem dL_law_186 : decode cL_law 186 = .ok (.iload_n 3, 1) := by decide +kernel
theorem dL_law_187 : decode cL_law 187 = .ok (.iconst 1, 1) := by decide +kernel
theorem dL_law_188 : decode cL_law 188 = .ok (.iadd, 1) := by decide +kernel
theorem dL_law_189 : decode cL_law 189 = .ok (.iaload, 1) := by decide +kernel
theorem dL_law_190 : decode cL_law 190 = .ok (.invokevirtual 24, 3) := by decide +kernel
theorem dL_law_193 : decode cL_law 193 = .ok (.if_icmp .eq 367, 3) := by decide +kernel
theorem dL_law_198 : decode cL_law 198 = .ok (.aload_n 1, 1) := by decide +kernel
theorem dL_law_199 : decode cL_law 199 = .ok (.aload_n 0, 1) := by decide +kernel
theorem dL_law_200 : decode cL_law 200 = .ok (.iload_n 3, 1) := by decide +kernel
theorem dL_law_201 : decode cL_law 201 = .ok (.iconst 1, 1) := by decide +kernel
theorem dL_law_202 : decode cL_law 202 = .ok (.iadd, 1) := by decide +kernel
theorem dL_law_203 : decode cL_law 203 = .ok (.iaload, 1) := by decide +kernel
theorem dL_law_204 : decode cL_law 204 = .ok (.invokevirtual 25, 3) := by decide +kernel
theorem dL_law_207 : decode cL_law 207 = .ok (.aload_n 2, 1) := by decide +kernel
theorem dL_law_208 : decode cL_law 208 = .ok (.aload_n 0, 1) := by decide +kernel
theorem dL_law_209 : decode cL_law 209 = .ok (.iload_n 3, 1) := by decide +kernel
theorem dL_law_210 : decode cL_law 210 = .ok (.iconst 1, 1) := by decide +kernel
theorem dL_law_211 : decode cL_law 211 = .ok (.iadd, 1) := by decide +kernel
theorem dL_law_212 : decode cL_law 212 = .ok (.iaload, 1) := by decide +kernel
theorem dL_law_213 : decode cL_law 213 = .ok (.invokevirtual 28, 3) := by decide +kernel
theorem dL_law_216 : decode cL_law 216 = .ok (.if_icmp .eq 344, 3) := by decide +kernel
theorem dL_law_221 : decode cL_law 221 = .ok (.aload_n 1, 1) := by decide +kernel
theorem dL_law_222 : decode cL_law 222 = .ok (.aload_n 0, 1) := by decide +kernel
theorem dL_law_223 : decode cL_law 223 = .ok (.iload_n 3, 1) := by decide +kernel
theorem dL_law_224 : decode cL_law 224 = .ok (.iconst 1, 1) := by decide +kernel
theorem dL_law_225 : decode cL_law 225 = .ok (.iadd, 1) := by decide +kernel
theorem dL_law_226 : decode cL_law 226 = .ok (.iaload, 1) := by decide +kernel
theorem dL_law_227 : decode cL_law 227 = .ok (.invokevirtual 29, 3) := by decide +kernel
theorem dL_law_230 : decode cL_law 230 = .ok (.aload_n 2, 1) := by decide +kernel
theorem dL_law_231 : decode cL_law 231 = .ok (.aload_n 0, 1) := by decide +kernel
theorem dL_law_232 : decode cL_law 232 = .ok (.iload_n 3, 1) := by decide +kernel
theorem dL_law_233 : decode cL_law 233 = .ok (.iconst 1, 1) := by decide +kernel
theorem dL_law_234 : decode cL_law 234 = .ok (.iadd, 1) := by decide +kernel
theorem dL_law_235 : decode cL_law 235 = .ok (.iaload, 1) := by decide +kernel
theorem dL_law_236 : decode cL_law 236 = .ok (.invokevirtual 32, 3) := by decide +kernel
theorem dL_law_239 : decode cL_law 239 = .ok (.if_icmp .eq 321, 3) := by decide +kernel
theorem dL_law_244 : decode cL_law 244 = .ok (.aload_n 1, 1) := by decide +kernel
theorem dL_law_245 : decode cL_law 245 = .ok (.aload_n 0, 1) := by decide +kernel
theorem dL_law_246 : decode cL_law 246 = .ok (.iload_n 3, 1) := by decide +kernel
theorem dL_law_247 : decode cL_law 247 = .ok (.iconst 1, 1) := by decide +kernel
theorem dL_law_248 : decode cL_law 248 = .ok (.iadd, 1) := by decide +kernel
theorem dL_law_249 : decode cL_law 249 = .ok (.iaload, 1) := by decide +kernel
theorem dL_law_250 : decode cL_law 250 = .ok (.aload_n 0, 1) := by decide +kernel
theorem dL_law_251 : decode cL_law 251 = .ok (.iload_n 3, 1) := by decide +kernel
theorem dL_law_252 : decode cL_law 252 = .ok (.iconst 2, 1) := by decide +kernel
theorem dL_law_253 : decode cL_law 253 = .ok (.iadd, 1) := by decide +kernel
theorem dL_law_254 : decode cL_law 254 = .ok (.iaload, 1) := by decide +kernel
theorem dL_law_255 : decode cL_law 255 = .ok (.invokevirtual 33, 3) := by decide +kernel
theorem dL_law_258 : decode cL_law 258 = .ok (.aload_n 2, 1) := by decide +kernel
theorem dL_law_259 : decode cL_law 259 = .ok (.aload_n 0, 1) := by decide +kernel
theorem dL_law_260 : decode cL_law 260 = .ok (.iload_n 3, 1) := by decide +kernel
theorem dL_law_261 : decode cL_law 261 = .ok (.iconst 1, 1) := by decide +kernel
theorem dL_law_262 : decode cL_law 262 = .ok (.iadd, 1) := by decide +kernel
theorem dL_law_263 : decode cL_law 263 = .ok (.iaload, 1) := by decide +kernel
theorem dL_law_264 : decode cL_law 264 = .ok (.aload_n 0, 1) := by decide +kernel
theorem dL_law_265 : decode cL_law 265 = .ok (.iload_n 3, 1) := by decide +kernel
theorem dL_law_266 : decode cL_law 266 = .ok (.iconst 2, 1) := by decide +kernel
theorem dL_law_267 : decode cL_law 267 = .ok (.iadd, 1) := by decide +kernel
theorem dL_law_268 : decode cL_law 268 = .ok (.iaload, 1) := by decide +kernel
theorem dL_law_269 : decode cL_law 269 = .ok (.invokevirtual 37, 3) := by decide +kernel
theorem dL_law_272 : decode cL_law 272 = .ok (.if_icmp .eq 288, 3) := by decide +kernel
theorem dL_law_277 : decode cL_law 277 = .ok (.aload_n 1, 1) := by decide +kernel
theorem dL_law_278 : decode cL_law 278 = .ok (.invokevirtual 38, 3) := by decide +kernel
theorem dL_law_281 : decode cL_law 281 = .ok (.aload_n 2, 1) := by decide +kernel
theorem dL_law_282 : decode cL_law 282 = .ok (.invokevirtual 42, 3) := by decide +kernel
theorem dL_law_285 : decode cL_law 285 = .ok (.if_icmp .eq 275, 3) := by decide +kernel
theorem dL_law_290 : decode cL_law 290 = .ok (.aload_n 1, 1) := by decide +kernel
theorem dL_law_291 : decode cL_law 291 = .ok (.invokevirtual 43, 3) := by decide +kernel
theorem dL_law_294 : decode cL_law 294 = .ok (.aload_n 2, 1) := by decide +kernel
theorem dL_law_295 : decode cL_law 295 = .ok (.invokevirtual 46, 3) := by decide +kernel
theorem dL_law_298 : decode cL_law 298 = .ok (.if_icmp .eq 262, 3) := by decide +kernel
theorem dL_law_303 : decode cL_law 303 = .ok (.aload_n 1, 1) := by decide +kernel
theorem dL_law_304 : decode cL_law 304 = .ok (.aload_n 0, 1) := by decide +kernel
theorem dL_law_305 : decode cL_law 305 = .ok (.iload_n 3, 1) := by decide +kernel
theorem dL_law_306 : decode cL_law 306 = .ok (.iconst 1, 1) := by decide +kernel
theorem dL_law_307 : decode cL_law 307 = .ok (.iadd, 1) := by decide +kernel
theorem dL_law_308 : decode cL_law 308 = .ok (.iaload, 1) := by decide +kernel
theorem dL_law_309 : decode cL_law 309 = .ok (.invokevirtual 47, 3) := by decide +kernel
theorem dL_law_312 : decode cL_law 312 = .ok (.aload_n 2, 1) := by decide +kernel
theorem dL_law_313 : decode cL_law 313 = .ok (.aload_n 0, 1) := by decide +kernel
theorem dL_law_314 : decode cL_law 314 = .ok (.iload_n 3, 1) := by decide +kernel
theorem dL_law_315 : decode cL_law 315 = .ok (.iconst 1, 1) := by decide +kernel
theorem dL_law_316 : decode cL_law 316 = .ok (.iadd, 1) := by decide +kernel
theorem dL_law_317 : decode cL_law 317 = .ok (.iaload, 1) := by decide +kernel
theorem dL_law_318 : decode cL_law 318 = .ok (.invokevirtual 50, 3) := by decide +kernel
theorem dL_law_321 : decode cL_law 321 = .ok (.if_icmp .eq 239, 3) := by decide +kernel
theorem dL_law_326 : decode cL_law 326 = .ok (.aload_n 1, 1) := by decide +kernel
theorem dL_law_327 : decode cL_law 327 = .ok (.aload_n 0, 1) := by decide +kernel
theorem dL_law_328 : decode cL_law 328 = .ok (.iload_n 3, 1) := by decide +kernel
theorem dL_law_329 : decode cL_law 329 = .ok (.iconst 1, 1) := by decide +kernel
theorem dL_law_330 : decode cL_law 330 = .ok (.iadd, 1) := by decide +kernel
theorem dL_law_331 : decode cL_law 331 = .ok (.iaload, 1) := by decide +kernel
theorem dL_law_332 : decode cL_law 332 = .ok (.invokevirtual 51, 3) := by decide +kernel
theorem dL_law_335 : decode cL_law 335 = .ok (.aload_n 2, 1) := by decide +kernel
theorem dL_law_336 : decode cL_law 336 = .ok (.aload_n 0, 1) := by decide +kernel
theorem dL_law_337 : decode cL_law 337 = .ok (.iload_n 3, 1) := by decide +kernel
theorem dL_law_338 : decode cL_law 338 = .ok (.iconst 1, 1) := by decide +kernel
theorem dL_law_339 : decode cL_law 339 = .ok (.iadd, 1) := by decide +kernel
theorem dL_law_340 : decode cL_law 340 = .ok (.iaload, 1) := by decide +kernel
theorem dL_law_341 : decode cL_law 341 = .ok (.invokevirtual 54, 3) := by decide +kernel
theorem dL_law_344 : decode cL_law 344 = .ok (.if_icmp .eq 216, 3) := by decide +kernel
theorem dL_law_349 : decode cL_law 349 = .ok (.aload_n 1, 1) := by decide +kernel
theorem dL_law_350 : decode cL_law 350 = .ok (.aload_n 0, 1) := by decide +kernel
theorem dL_law_351 : decode cL_law 351 = .ok (.iload_n 3, 1) := by decide +kernel
theorem dL_law_352 : decode cL_law 352 = .ok (.iconst 1, 1) := by decide +kernel
theorem dL_law_353 : decode cL_law 353 = .ok (.iadd, 1) := by decide +kernel
theorem dL_law_354 : decode cL_law 354 = .ok (.iaload, 1) := by decide +kernel
theorem dL_law_355 : decode cL_law 355 = .ok (.aload_n 0, 1) := by decide +kernel
theorem dL_law_356 : decode cL_law 356 = .ok (.iload_n 3, 1) := by decide +kernel
theorem dL_law_357 : decode cL_law 357 = .ok (.iconst 2, 1) := by decide +kernel
theorem dL_law_358 : decode cL_law 358 = .ok (.iadd, 1) := by decide +kernel
theorem dL_law_359 : decode cL_law 359 = .ok (.iaload, 1) := by decide +kernel
theorem dL_law_360 : decode cL_law 360 = .ok (.invokevirtual 55, 3) := by decide +kernel
theorem dL_law_363 : decode cL_law 363 = .ok (.aload_n 2, 1) := by decide +kernel
theorem dL_law_364 : decode cL_law 364 = .ok (.aload_n 0, 1) := by decide +kernel
theorem dL_law_365 : decode cL_law 365 = .ok (.iload_n 3, 1) := by decide +kernel
theorem dL_law_366 : decode cL_law 366 = .ok (.iconst 1, 1) := by decide +kernel
theorem dL_law_367 : decode cL_law 367 = .ok (.iadd, 1) := by decide +kernel
theorem dL_law_368 : decode cL_law 368 = .ok (.iaload, 1) := by decide +kernel
theorem dL_law_369 : decode cL_law 369 = .ok (.aload_n 0, 1) := by decide +kernel
theorem dL_law_370 : decode cL_law 370 = .ok (.iload_n 3, 1) := by decide +kernel
theorem dL_law_371 : decode cL_law 371 = .ok (.iconst 2, 1) := by decide +kernel
theorem dL_law_372 : decode cL_law 372 = .ok (.iadd, 1) := by decide +kernel
theorem dL_law_373 : decode cL_law 373 = .ok (.iaload, 1) := by decide +kernel
theorem dL_law_374 : decode cL_law 374 = .ok (.invokevirtual 58, 3) := by decide +kernel
theorem dL_law_377 : decode cL_law 377 = .ok (.if_icmp .eq 183, 3) := by decide +kernel
theorem dL_law_382 : decode cL_law 382 = .ok (.aload_n 1, 1) := by decide +kernel
theorem dL_law_383 : decode cL_law 383 = .ok (.invokevirtual 59, 3) := by decide +kernel
theorem dL_law_386 : decode cL_law 386 = .ok (.aload_n 2, 1) := by decide +kernel
theorem dL_law_387 : decode cL_law 387 = .ok (.invokevirtual 62, 3) := by decide +kernel
theorem dL_law_390 : decode cL_law 390 = .ok (.if_icmp .eq 170, 3) := by decide +kernel
theorem dL_law_395 : decode cL_law 395 = .ok (.aload_n 1, 1) := by decide +kernel
theorem dL_law_396 : decode cL_law 396 = .ok (.aload_n 0, 1) := by decide +kernel
theorem dL_law_397 : decode cL_law 397 = .ok (.iload_n 3, 1) := by decide +kernel
theorem dL_law_398 : decode cL_law 398 = .ok (.iconst 1, 1) := by decide +kernel
theorem dL_law_399 : decode cL_law 399 = .ok (.iadd, 1) := by decide +kernel
theorem dL_law_400 : decode cL_law 400 = .ok (.iaload, 1) := by decide +kernel
theorem dL_law_401 : decode cL_law 401 = .ok (.aload_n 0, 1) := by decide +kernel
theorem dL_law_402 : decode cL_law 402 = .ok (.iload_n 3, 1) := by decide +kernel
theorem dL_law_403 : decode cL_law 403 = .ok (.iconst 2, 1) := by decide +kernel
theorem dL_law_404 : decode cL_law 404 = .ok (.iadd, 1) := by decide +kernel
theorem dL_law_405 : decode cL_law 405 = .ok (.iaload, 1) := by decide +kernel
theorem dL_law_406 : decode cL_law 406 = .ok (.invokevirtual 63, 3) := by decide +kernel
theorem dL_law_409 : decode cL_law 409 = .ok (.aload_n 2, 1) := by decide +kernel
theorem dL_law_410 : decode cL_law 410 = .ok (.aload_n 0, 1) := by decide +kernel
theorem dL_law_411 : decode cL_law 411 = .ok (.iload_n 3, 1) := by decide +kernel
theorem dL_law_412 : decode cL_law 412 = .ok (.iconst 1, 1) := by decide +kernel
theorem dL_law_413 : decode cL_law 413 = .ok (.iadd, 1) := by decide +kernel
theorem dL_law_414 : decode cL_law 414 = .ok (.iaload, 1) := by decide +kernel
theorem dL_law_415 : decode cL_law 415 = .ok (.aload_n 0, 1) := by decide +kernel
theorem dL_law_416 : decode cL_law 416 = .ok (.iload_n 3, 1) := by decide +kernel
theorem dL_law_417 : decode cL_law 417 = .ok (.iconst 2, 1) := by decide +kernel
theorem dL_law_418 : decode cL_law 418 = .ok (.iadd, 1) := by decide +kernel
theorem dL_law_419 : decode cL_law 419 = .ok (.iaload, 1) := by decide +kernel
theorem dL_law_420 : decode cL_law 420 = .ok (.invokevirtual 66, 3) := by decide +kernel
theorem dL_law_423 : decode cL_law 423 = .ok (.if_icmp .eq 137, 3) := by decide +kernel
theorem dL_law_428 : decode cL_law 428 = .ok (.aload_n 1, 1) := by decide +kernel
theorem dL_law_429 : decode cL_law 429 = .ok (.aload_n 0, 1) := by decide +kernel
theorem dL_law_430 : decode cL_law 430 = .ok (.iload_n 3, 1) := by decide +kernel
theorem dL_law_431 : decode cL_law 431 = .ok (.iconst 1, 1) := by decide +kernel
theorem dL_law_432 : decode cL_law 432 = .ok (.iadd, 1) := by decide +kernel
theorem dL_law_433 : decode cL_law 433 = .ok (.iaload, 1) := by decide +kernel
theorem dL_law_434 : decode cL_law 434 = .ok (.aload_n 0, 1) := by decide +kernel
theorem dL_law_435 : decode cL_law 435 = .ok (.iload_n 3, 1) := by decide +kernel
theorem dL_law_436 : decode cL_law 436 = .ok (.iconst 2, 1) := by decide +kernel
theorem dL_law_437 : decode cL_law 437 = .ok (.iadd, 1) := by decide +kernel
theorem dL_law_438 : decode cL_law 438 = .ok (.iaload, 1) := by decide +kernel
theorem dL_law_439 : decode cL_law 439 = .ok (.aload_n 0, 1) := by decide +kernel
theorem dL_law_440 : decode cL_law 440 = .ok (.iload_n 3, 1) := by decide +kernel
theorem dL_law_441 : decode cL_law 441 = .ok (.iconst 3, 1) := by decide +kernel
theorem dL_law_442 : decode cL_law 442 = .ok (.iadd, 1) := by decide +kernel
theorem dL_law_443 : decode cL_law 443 = .ok (.iaload, 1) := by decide +kernel
theorem dL_law_444 : decode cL_law 444 = .ok (.invokevirtual 67, 3) := by decide +kernel
theorem dL_law_447 : decode cL_law 447 = .ok (.aload_n 2, 1) := by decide +kernel
theorem dL_law_448 : decode cL_law 448 = .ok (.aload_n 0, 1) := by decide +kernel
theorem dL_law_449 : decode cL_law 449 = .ok (.iload_n 3, 1) := by decide +kernel
theorem dL_law_450 : decode cL_law 450 = .ok (.iconst 1, 1) := by decide +kernel
theorem dL_law_451 : decode cL_law 451 = .ok (.iadd, 1) := by decide +kernel
theorem dL_law_452 : decode cL_law 452 = .ok (.iaload, 1) := by decide +kernel
theorem dL_law_453 : decode cL_law 453 = .ok (.aload_n 0, 1) := by decide +kernel
theorem dL_law_454 : decode cL_law 454 = .ok (.iload_n 3, 1) := by decide +kernel
theorem dL_law_455 : decode cL_law 455 = .ok (.iconst 2, 1) := by decide +kernel
theorem dL_law_456 : decode cL_law 456 = .ok (.iadd, 1) := by decide +kernel
theorem dL_law_457 : decode cL_law 457 = .ok (.iaload, 1) := by decide +kernel
theorem dL_law_458 : decode cL_law 458 = .ok (.aload_n 0, 1) := by decide +kernel
theorem dL_law_459 : decode cL_law 459 = .ok (.iload_n 3, 1) := by decide +kernel
theorem dL_law_460 : decode cL_law 460 = .ok (.iconst 3, 1) := by decide +kernel
theorem dL_law_461 : decode cL_law 461 = .ok (.iadd, 1) := by decide +kernel
theorem dL_law_462 : decode cL_law 462 = .ok (.iaload, 1) := by decide +kernel
theorem dL_law_463 : decode cL_law 463 = .ok (.invokevirtual 71, 3) := by decide +kernel
theorem dL_law_466 : decode cL_law 466 = .ok (.if_icmp .eq 94, 3) := by decide +kernel
theorem dL_law_471 : decode cL_law 471 = .ok (.aload_n 1, 1) := by decide +kernel
theorem dL_law_472 : decode cL_law 472 = .ok (.aload_n 0, 1) := by decide +kernel
theorem dL_law_473 : decode cL_law 473 = .ok (.iload_n 3, 1) := by decide +kernel
theorem dL_law_474 : decode cL_law 474 = .ok (.iconst 1, 1) := by decide +kernel
theorem dL_law_475 : decode cL_law 475 = .ok (.iadd, 1) := by decide +kernel
theorem dL_law_476 : decode cL_law 476 = .ok (.iaload, 1) := by decide +kernel
theorem dL_law_477 : decode cL_law 477 = .ok (.aload_n 0, 1) := by decide +kernel
theorem dL_law_478 : decode cL_law 478 = .ok (.iload_n 3, 1) := by decide +kernel
theorem dL_law_479 : decode cL_law 479 = .ok (.iconst 2, 1) := by decide +kernel
theorem dL_law_480 : decode cL_law 480 = .ok (.iadd, 1) := by decide +kernel
theorem dL_law_481 : decode cL_law 481 = .ok (.iaload, 1) := by decide +kernel
theorem dL_law_482 : decode cL_law 482 = .ok (.invokevirtual 72, 3) := by decide +kernel
theorem dL_law_485 : decode cL_law 485 = .ok (.aload_n 2, 1) := by decide +kernel
theorem dL_law_486 : decode cL_law 486 = .ok (.aload_n 0, 1) := by decide +kernel
theorem dL_law_487 : decode cL_law 487 = .ok (.iload_n 3, 1) := by decide +kernel
theorem dL_law_488 : decode cL_law 488 = .ok (.iconst 1, 1) := by decide +kernel
theorem dL_law_489 : decode cL_law 489 = .ok (.iadd, 1) := by decide +kernel
theorem dL_law_490 : decode cL_law 490 = .ok (.iaload, 1) := by decide +kernel
theorem dL_law_491 : decode cL_law 491 = .ok (.aload_n 0, 1) := by decide +kernel
theorem dL_law_492 : decode cL_law 492 = .ok (.iload_n 3, 1) := by decide +kernel
theorem dL_law_493 : decode cL_law 493 = .ok (.iconst 2, 1) := by decide +kernel
theorem dL_law_494 : decode cL_law 494 = .ok (.iadd, 1) := by decide +kernel
theorem dL_law_495 : decode cL_law 495 = .ok (.iaload, 1) := by decide +kernel
theorem dL_law_496 : decode cL_law 496 = .ok (.invokevirtual 75, 3) := by decide +kernel
theorem dL_law_499 : decode cL_law 499 = .ok (.if_icmp .eq 61, 3) := by decide +kernel
theorem dL_law_504 : decode cL_law 504 = .ok (.aload_n 1, 1) := by decide +kernel
theorem dL_law_505 : decode cL_law 505 = .ok (.aload_n 0, 1) := by decide +kernel
theorem dL_law_506 : decode cL_law 506 = .ok (.iload_n 3, 1) := by decide +kernel
theorem dL_law_507 : decode cL_law 507 = .ok (.iconst 1, 1) := by decide +kernel
theorem dL_law_508 : decode cL_law 508 = .ok (.iadd, 1) := by decide +kernel
theorem dL_law_509 : decode cL_law 509 = .ok (.iaload, 1) := by decide +kernel
theorem dL_law_510 : decode cL_law 510 = .ok (.aload_n 0, 1) := by decide +kernel
theorem dL_law_511 : decode cL_law 511 = .ok (.iload_n 3, 1) := by decide +kernel
theorem dL_law_512 : decode cL_law 512 = .ok (.iconst 2, 1) := by decide +kernel
theorem dL_law_513 : decode cL_law 513 = .ok (.iadd, 1) := by decide +kernel
theorem dL_law_514 : decode cL_law 514 = .ok (.iaload, 1) := by decide +kernel
theorem dL_law_515 : decode cL_law 515 = .ok (.invokevirtual 76, 3) := by decide +kernel
theorem dL_law_518 : decode cL_law 518 = .ok (.aload_n 2, 1) := by decide +kernel
theorem dL_law_519 : decode cL_law 519 = .ok (.aload_n 0, 1) := by decide +kernel
theorem dL_law_520 : decode cL_law 520 = .ok (.iload_n 3, 1) := by decide +kernel
theorem dL_law_521 : decode cL_law 521 = .ok (.iconst 1, 1) := by decide +kernel
theorem dL_law_522 : decode cL_law 522 = .ok (.iadd, 1) := by decide +kernel
theorem dL_law_523 : decode cL_law 523 = .ok (.iaload, 1) := by decide +kernel
theorem dL_law_524 : decode cL_law 524 = .ok (.aload_n 0, 1) := by decide +kernel
theorem dL_law_525 : decode cL_law 525 = .ok (.iload_n 3, 1) := by decide +kernel
theorem dL_law_526 : decode cL_law 526 = .ok (.iconst 2, 1) := by decide +kernel
theorem dL_law_527 : decode cL_law 527 = .ok (.iadd, 1) := by decide +kernel
theorem dL_law_528 : decode cL_law 528 = .ok (.iaload, 1) := by decide +kernel
theorem dL_law_529 : decode cL_law 529 = .ok (.invokevirtual 79, 3) := by decide +kernel
theorem dL_law_532 : decode cL_law 532 = .ok (.if_icmp .eq 28, 3) := by decide +kernel
theorem dL_law_537 : decode cL_law 537 = .ok (.aload_n 1, 1) := by decide +kernel
theorem dL_law_538 : decode cL_law 538 = .ok (.aload_n 0, 1) := by decide +kernel
theorem dL_law_539 : decode cL_law 539 = .ok (.iload_n 3, 1) := by decide +kernel
theorem dL_law_540 : decode cL_law 540 = .ok (.iconst 1, 1) := by decide +kernel
theorem dL_law_541 : decode cL_law 541 = .ok (.iadd, 1) := by decide +kernel
theorem dL_law_542 : decode cL_law 542 = .ok (.iaload, 1) := by decide +kernel
theorem dL_law_543 : decode cL_law 543 = .ok (.invokevirtual 80, 3) := by decide +kernel
theorem dL_law_546 : decode cL_law 546 = .ok (.aload_n 2, 1) := by decide +kernel
theorem dL_law_547 : decode cL_law 547 = .ok (.aload_n 0, 1) := by decide +kernel
theorem dL_law_548 : decode cL_law 548 = .ok (.iload_n 3, 1) := by decide +kernel
theorem dL_law_549 : decode cL_law 549 = .ok (.iconst 1, 1) := by decide +kernel
theorem dL_law_550 : decode cL_law 550 = .ok (.iadd, 1) := by decide +kernel
theorem dL_law_551 : decode cL_law 551 = .ok (.iaload, 1) := by decide +kernel
theorem dL_law_552 : decode cL_law 552 = .ok (.invokevirtual 83, 3) := by decide +kernel
theorem dL_law_555 : decode cL_law 555 = .ok (.if_icmp .eq 5, 3) := by decide +kernel
theorem dL_law_560 : decode cL_law 560 = .ok (.iinc 3 4, 3) := by decide +kernel
theorem dL_law_563 : decode cL_law 563 = .ok (.goto (-545), 3) := by decide +kernel
theorem dL_law_566 : decode cL_law 566 = .ok (.iconst 1, 1) := by decide +kernel
theorem dL_law_567 : decode cL_law 567 = .ok (.ireturn, 1) := by decide +kernel
end
section
set_option maxRecDepth 20000 in
theorem ggX0_spend_X0_choose : GoodIn wsX0_spend wsX0_choose := goodIn_r _ [9, 4, 10, 11, 12, 8, 13, 14, 15, 16, 17, 18, 19, 1, 20, 21, 22, 23, 24, 25, 26, 27, 28, 29, 30, 31, 32, 33, 34, 35, 36, 37, 38, 39, 40, 41, 42, 43, 44, 45, 46, 47, 48, 49, 50, 51, 52, 53, 54, 55, 56, 57, 58, 59, 60, 61, 62, 63, 64, 65, 66, 67, 68, 69, 70, 71, 72, 73, 74, 75, 76, 77, 78, 79, 80, 81, 188, 189, 190, 191, 192, 193, 194, 195, 196, 197, 198, 199, 200, 201, 202, 203, 204, 205, 206, 207, 208, 209, 210] rfl (by decide +kernel)
set_option maxRecDepth 20000 in
theorem gX0_spend_X0_choose : GoodIn wsX0_spend (wsV RX0 34 RX0 yX0_choose wsX0_choose) := goodIn_app (goodIn_of _ (by decide +kernel)) ggX0_spend_X0_choose
set_option maxRecDepth 20000 in
theorem ggX0_spend_X0_gatherAged : GoodIn wsX0_spend wsX0_gatherAged := goodIn_r _ [85, 2, 19, 4, 24, 25, 26, 27, 28, 29, 30, 31, 32, 33, 34, 35, 36, 37, 38, 86, 87, 88, 8, 89, 3, 90, 91, 92, 93, 1, 94, 95, 96, 42, 97, 44, 45, 46, 47, 48, 49, 50, 51, 52, 53, 54, 55, 56, 57, 98, 99, 100, 101, 188, 189, 190, 191, 192, 193, 194, 195, 196, 197, 198, 199, 200, 201, 202, 203, 204, 205, 206, 207, 208, 209, 210] rfl (by decide +kernel)
set_option maxRecDepth 20000 in
theorem gX0_spend_X0_gatherAged : GoodIn wsX0_spend (wsV RX0 38 RX0 yX0_gatherAged wsX0_gatherAged) := goodIn_app (goodIn_of _ (by decide +kernel)) ggX0_spend_X0_gatherAged
set_option maxRecDepth 20000 in
theorem ggX0_spend_X0_countWanted : GoodIn wsX0_spend wsX0_countWanted := goodIn_r _ [105, 1, 2, 3, 39, 40, 41, 42, 43, 44, 45, 46, 47, 48, 27, 49, 29, 50, 30, 31, 32, 51, 52, 53, 54, 55, 56, 57, 188, 189, 190, 191, 192, 193, 197, 198, 199, 200, 201, 202, 203, 204, 205, 206, 207, 208, 209, 210, 194, 195, 196] rfl (by decide +kernel)
set_option maxRecDepth 20000 in
theorem gX0_spend_X0_countWanted : GoodIn wsX0_spend (wsV RX0 41 RX0 yX0_countWanted wsX0_countWanted) := goodIn_app (goodIn_of _ (by decide +kernel)) ggX0_spend_X0_countWanted
set_option maxRecDepth 20000 in
theorem ggX0_spend_X3_countFree : GoodIn wsX0_spend wsX3_countFree := goodIn_r _ [109, 67, 197, 198, 199, 200, 201, 202, 203, 204, 205, 206, 207, 208, 209, 210] rfl (by decide +kernel)
set_option maxRecDepth 20000 in
theorem gX0_spend_X3_countFree : GoodIn wsX0_spend (wsV RX0 45 RX3 yX3_countFree wsX3_countFree) := goodIn_app (goodIn_of _ (by decide +kernel)) ggX0_spend_X3_countFree
set_option maxRecDepth 20000 in
theorem ggX0_choose_X0_forgetChosen : GoodIn wsX0_choose wsX0_forgetChosen := goodIn_r _ [6, 1, 76, 77, 78, 79, 80, 81] rfl (by decide +kernel)
set_option maxRecDepth 20000 in
theorem gX0_choose_X0_forgetChosen : GoodIn wsX0_choose (wsV RX0 57 RX0 yX0_forgetChosen wsX0_forgetChosen) := goodIn_app (goodIn_of _ (by decide +kernel)) ggX0_choose_X0_forgetChosen
set_option maxRecDepth 20000 in
theorem ggX0_choose_X0_weighLive : GoodIn wsX0_choose wsX0_weighLive := goodIn_r _ [10, 11, 12, 13, 14, 15, 16, 17, 18, 19, 20, 21, 22, 23, 24, 25, 26, 27, 28, 29, 30, 31, 32, 33, 34, 35, 36, 37, 38, 39, 40, 41, 42, 43, 44, 45, 46, 47, 48, 49, 50, 51, 76, 77, 78, 79, 80, 81, 82, 83, 84, 85, 86, 87, 88, 89, 90, 91, 92, 93, 94, 95, 96, 97, 98] rfl (by decide +kernel)
set_option maxRecDepth 20000 in
theorem gX0_choose_X0_weighLive : GoodIn wsX0_choose (wsV RX0 60 RX0 yX0_weighLive wsX0_weighLive) := goodIn_app (goodIn_of _ (by decide +kernel)) ggX0_choose_X0_weighLive
set_option maxRecDepth 20000 in
theorem ggX0_choose_X0_bestLeft : GoodIn wsX0_choose wsX0_bestLeft := goodIn_r _ [55, 13, 1, 56, 57, 58, 36, 59, 60, 61, 27, 25, 28, 62, 63, 64, 5, 65, 11, 66, 67, 68, 69, 70, 71, 72, 73, 74, 75, 76, 77, 78, 79, 80, 81, 85, 86, 87, 88, 89, 90, 91, 92, 93, 94, 95, 96, 97, 98] rfl (by decide +kernel)
set_option maxRecDepth 20000 in
theorem gX0_choose_X0_bestLeft : GoodIn wsX0_choose (wsV RX0 63 RX0 yX0_bestLeft wsX0_bestLeft) := goodIn_app (goodIn_of _ (by decide +kernel)) ggX0_choose_X0_bestLeft
set_option maxRecDepth 20000 in
theorem ggX0_weighLive_J7_fill_53178 : GoodIn wsX0_weighLive wsJ7_fill_53178 := goodIn_r _ [7] rfl (by decide +kernel)
set_option maxRecDepth 20000 in
theorem gX0_weighLive_J7_fill_53178 : GoodIn wsX0_weighLive (va_wsS RX0 66 yJ7_fill_53178 wsJ7_fill_53178) := goodIn_app (goodIn_of _ (by decide +kernel)) ggX0_weighLive_J7_fill_53178
set_option maxRecDepth 20000 in
theorem ggX0_weighLive_X2_has : GoodIn wsX0_weighLive wsX2_has := goodIn_r _ [12, 13, 14, 15, 16, 17, 18, 48, 49, 50] rfl (by decide +kernel)
set_option maxRecDepth 20000 in
theorem gX0_weighLive_X2_has : GoodIn wsX0_weighLive (wsV RX0 72 RX2 yX2_has wsX2_has) := goodIn_app (goodIn_of _ (by decide +kernel)) ggX0_weighLive_X2_has
set_option maxRecDepth 20000 in
theorem ggX0_bestLeft_X3_stateOf : GoodIn wsX0_bestLeft wsX3_stateOf := goodIn_r _ [7, 8, 9, 10, 11, 12, 35, 36, 37, 38, 39, 40, 41, 42, 43, 44, 45, 46, 47, 48] rfl (by decide +kernel)
set_option maxRecDepth 20000 in
theorem gX0_bestLeft_X3_stateOf : GoodIn wsX0_bestLeft (wsV RX0 84 RX3 yX3_stateOf wsX3_stateOf) := goodIn_app (goodIn_of _ (by decide +kernel)) ggX0_bestLeft_X3_stateOf
set_option maxRecDepth 20000 in
theorem ggX0_gatherAged_X2_has : GoodIn wsX0_gatherAged wsX2_has := goodIn_r _ [8, 9, 10, 11, 12, 13, 14, 59, 60, 61] rfl (by decide +kernel)
set_option maxRecDepth 20000 in
theorem gX0_gatherAged_X2_has : GoodIn wsX0_gatherAged (wsV RX0 72 RX2 yX2_has wsX2_has) := goodIn_app (goodIn_of _ (by decide +kernel)) ggX0_gatherAged_X2_has
set_option maxRecDepth 20000 in
theorem ggX1_flip_X4_number : GoodIn wsX1_flip wsX4_number := goodIn_r _ [5, 6, 7, 4, 8] rfl (by decide +kernel)
set_option maxRecDepth 20000 in
theorem gX1_flip_X4_number : GoodIn wsX1_flip (va_wsS RX1 30 yX4_number wsX4_number) := goodIn_app (goodIn_of _ (by decide +kernel)) ggX1_flip_X4_number
set_option maxRecDepth 20000 in
theorem ggX1_flip_X4_setNumber : GoodIn wsX1_flip wsX4_setNumber := goodIn_r _ [11, 6, 7, 4, 8] rfl (by decide +kernel)
set_option maxRecDepth 20000 in
theorem gX1_flip_X4_setNumber : GoodIn wsX1_flip (va_wsS RX1 36 yX4_setNumber wsX4_setNumber) := goodIn_app (goodIn_of _ (by decide +kernel)) ggX1_flip_X4_setNumber
set_option maxRecDepth 20000 in
theorem ggX1_write_X4_copy : GoodIn wsX1_write wsX4_copy := goodIn_r _ [13, 14, 15, 16, 17, 18, 19, 12, 20] rfl (by decide +kernel)
set_option maxRecDepth 20000 in
theorem gX1_write_X4_copy : GoodIn wsX1_write (va_wsS RX1 60 yX4_copy wsX4_copy) := goodIn_app (goodIn_of _ (by decide +kernel)) ggX1_write_X4_copy
set_option maxRecDepth 20000 in
theorem ggX2_has_X7_isKey : GoodIn wsX2_has wsX7_isKey := goodIn_r _ [4] rfl (by decide +kernel)
set_option maxRecDepth 20000 in
theorem gX2_has_X7_isKey_n22 : GoodIn wsX2_has (wsX7_isKey) := ggX2_has_X7_isKey
set_option maxRecDepth 20000 in
theorem ggX2_has_X7_isOfLog : GoodIn wsX2_has wsX7_isOfLog := goodIn_r _ [6] rfl (by decide +kernel)
set_option maxRecDepth 20000 in
theorem gX2_has_X7_isOfLog_n26 : GoodIn wsX2_has (wsX7_isOfLog) := ggX2_has_X7_isOfLog
set_option maxRecDepth 20000 in
theorem ggX2_follow_X7_isKey : GoodIn wsX2_follow wsX7_isKey := goodIn_r _ [6] rfl (by decide +kernel)
set_option maxRecDepth 20000 in
theorem gX2_follow_X7_isKey_n22 : GoodIn wsX2_follow (wsX7_isKey) := ggX2_follow_X7_isKey
set_option maxRecDepth 20000 in
theorem ggX2_clear_J7_fill_53178 : GoodIn wsX2_clear wsJ7_fill_53178 := goodIn_r _ [7] rfl (by decide +kernel)
set_option maxRecDepth 20000 in
theorem gX2_clear_J7_fill_53178 : GoodIn wsX2_clear (va_wsS RX2 29 yJ7_fill_53178 wsJ7_fill_53178) := goodIn_app (goodIn_of _ (by decide +kernel)) ggX2_clear_J7_fill_53178
set_option maxRecDepth 20000 in
theorem ggX3_setAsAtFirst_J7_fill_53178 : GoodIn wsX3_setAsAtFirst wsJ7_fill_53178 := goodIn_r _ [11] rfl (by decide +kernel)
set_option maxRecDepth 20000 in
theorem gX3_setAsAtFirst_J7_fill_53178 : GoodIn wsX3_setAsAtFirst (va_wsS RX3 59 yJ7_fill_53178 wsJ7_fill_53178) := goodIn_app (goodIn_of _ (by decide +kernel)) ggX3_setAsAtFirst_J7_fill_53178
set_option maxRecDepth 20000 in
theorem ggX3_stateOf_X7_isOfLog : GoodIn wsX3_stateOf wsX7_isOfLog := goodIn_r _ [5] rfl (by decide +kernel)
set_option maxRecDepth 20000 in
theorem gX3_stateOf_X7_isOfLog_n65 : GoodIn wsX3_stateOf (wsX7_isOfLog) := ggX3_stateOf_X7_isOfLog
set_option maxRecDepth 20000 in
theorem ggX3_isUsed_X7_isOfLog : GoodIn wsX3_isUsed wsX7_isOfLog := goodIn_r _ [4] rfl (by decide +kernel)
set_option maxRecDepth 20000 in
theorem gX3_isUsed_X7_isOfLog_n65 : GoodIn wsX3_isUsed (wsX7_isOfLog) := ggX3_isUsed_X7_isOfLog
set_option maxRecDepth 20000 in
theorem ggX3_use_X7_isOfLog : GoodIn wsX3_use wsX7_isOfLog := goodIn_r _ [4] rfl (by decide +kernel)
set_option maxRecDepth 20000 in
theorem gX3_use_X7_isOfLog_n65 : GoodIn wsX3_use (wsX7_isOfLog) := ggX3_use_X7_isOfLog
set_option maxRecDepth 20000 in
theorem ggX3_forgetTimes_X7_isOfLog : GoodIn wsX3_forgetTimes wsX7_isOfLog := goodIn_r _ [4] rfl (by decide +kernel)
set_option maxRecDepth 20000 in
theorem gX3_forgetTimes_X7_isOfLog_n65 : GoodIn wsX3_forgetTimes (wsX7_isOfLog) := ggX3_forgetTimes_X7_isOfLog
set_option maxRecDepth 20000 in
theorem ggX3_noteTime_X7_isOfLog : GoodIn wsX3_noteTime wsX7_isOfLog := goodIn_r _ [5] rfl (by decide +kernel)
set_option maxRecDepth 20000 in
theorem gX3_noteTime_X7_isOfLog_n65 : GoodIn wsX3_noteTime (wsX7_isOfLog) := ggX3_noteTime_X7_isOfLog
set_option maxRecDepth 20000 in
theorem ggX3_hasRoomFor_X3_fits : GoodIn wsX3_hasRoomFor wsX3_fits := goodIn_r _ [5, 6, 7, 13, 14, 15, 16, 17, 18, 19, 20, 21, 22, 23, 24, 25, 26] rfl (by decide +kernel)
set_option maxRecDepth 20000 in
theorem gX3_hasRoomFor_X3_fits : GoodIn wsX3_hasRoomFor (wsV RX3 90 RX3 yX3_fits wsX3_fits) := goodIn_app (goodIn_of _ (by decide +kernel)) ggX3_hasRoomFor_X3_fits
set_option maxRecDepth 20000 in
theorem ggX3_hasRoomFor_X3_countFree : GoodIn wsX3_hasRoomFor wsX3_countFree := goodIn_r _ [11, 12, 13, 14, 15, 16, 17, 18, 19, 20, 21, 22, 23, 24, 25, 26] rfl (by decide +kernel)
set_option maxRecDepth 20000 in
theorem gX3_hasRoomFor_X3_countFree : GoodIn wsX3_hasRoomFor (wsV RX3 93 RX3 yX3_countFree wsX3_countFree) := goodIn_app (goodIn_of _ (by decide +kernel)) ggX3_hasRoomFor_X3_countFree
set_option maxRecDepth 20000 in
theorem ggX3_append_X3_fits : GoodIn wsX3_append wsX3_fits := goodIn_r _ [10, 2, 3, 85, 86, 87, 88, 89, 90, 91, 92, 93, 94, 95, 96, 97, 98] rfl (by decide +kernel)
set_option maxRecDepth 20000 in
theorem gX3_append_X3_fits : GoodIn wsX3_append (wsV RX3 90 RX3 yX3_fits wsX3_fits) := goodIn_app (goodIn_of _ (by decide +kernel)) ggX3_append_X3_fits
set_option maxRecDepth 20000 in
theorem ggX3_append_X3_openNext : GoodIn wsX3_append wsX3_openNext := goodIn_r _ [14, 2, 3, 15, 4, 16, 17, 18, 9, 19, 20, 21, 22, 23, 24, 25, 26, 27, 28, 29, 30, 31, 32, 33, 34, 35, 36, 37, 38, 39, 40, 41, 42, 43, 44, 45, 46, 47, 48, 49, 50, 51, 52, 53, 54, 55, 56, 57, 58, 59, 60, 61, 62, 85, 86, 87, 88, 89, 90, 91, 92, 93, 94, 95, 96, 97, 98] rfl (by decide +kernel)
set_option maxRecDepth 20000 in
theorem gX3_append_X3_openNext : GoodIn wsX3_append (wsV RX3 97 RX3 yX3_openNext wsX3_openNext) := goodIn_app (goodIn_of _ (by decide +kernel)) ggX3_append_X3_openNext
set_option maxRecDepth 20000 in
theorem ggX3_append_X4_setNumber : GoodIn wsX3_append wsX4_setNumber := goodIn_r _ [42, 37, 38, 35, 39] rfl (by decide +kernel)
set_option maxRecDepth 20000 in
theorem gX3_append_X4_setNumber : GoodIn wsX3_append (va_wsS RX3 100 yX4_setNumber wsX4_setNumber) := goodIn_app (goodIn_of _ (by decide +kernel)) ggX3_append_X4_setNumber
set_option maxRecDepth 20000 in
theorem ggX3_append_X4_copy : GoodIn wsX3_append wsX4_copy := goodIn_r _ [65, 66, 67, 68, 69, 37, 38, 35, 39] rfl (by decide +kernel)
set_option maxRecDepth 20000 in
theorem gX3_append_X4_copy : GoodIn wsX3_append (va_wsS RX3 104 yX4_copy wsX4_copy) := goodIn_app (goodIn_of _ (by decide +kernel)) ggX3_append_X4_copy
set_option maxRecDepth 20000 in
theorem ggX3_append_X4_setSum : GoodIn wsX3_append wsX4_setSum := goodIn_r _ [45, 46, 47, 35, 48, 49, 37, 38, 39, 50, 51, 52, 53, 54, 41, 42] rfl (by decide +kernel)
set_option maxRecDepth 20000 in
theorem gX3_append_X4_setSum : GoodIn wsX3_append (va_wsS RX3 108 yX4_setSum wsX4_setSum) := goodIn_app (goodIn_of _ (by decide +kernel)) ggX3_append_X4_setSum
set_option maxRecDepth 20000 in
theorem ggX3_append_X2_follow : GoodIn wsX3_append wsX2_follow := goodIn_r _ [74, 75, 76, 77, 78, 26, 79, 99, 100, 101] rfl (by decide +kernel)
set_option maxRecDepth 20000 in
theorem gX3_append_X2_follow : GoodIn wsX3_append (wsV RX3 112 RX2 yX2_follow wsX2_follow) := goodIn_app (goodIn_of _ (by decide +kernel)) ggX3_append_X2_follow
set_option maxRecDepth 20000 in
theorem ggX3_append_X3_noteTime : GoodIn wsX3_append wsX3_noteTime := goodIn_r _ [83, 32, 84, 25, 26, 27, 85, 86, 87, 88, 89, 90, 91, 92, 93, 94, 95, 96, 97, 98] rfl (by decide +kernel)
set_option maxRecDepth 20000 in
theorem gX3_append_X3_noteTime : GoodIn wsX3_append (wsV RX3 116 RX3 yX3_noteTime wsX3_noteTime) := goodIn_app (goodIn_of _ (by decide +kernel)) ggX3_append_X3_noteTime
set_option maxRecDepth 20000 in
theorem ggX3_append_X3_noteFresh : GoodIn wsX3_append wsX3_noteFresh := goodIn_r _ [58, 2, 59, 60, 61, 3, 62, 25, 26, 27, 85, 86, 87, 88, 89, 90, 91, 92, 93, 94, 95, 96, 97, 98] rfl (by decide +kernel)
set_option maxRecDepth 20000 in
theorem gX3_append_X3_noteFresh : GoodIn wsX3_append (wsV RX3 120 RX3 yX3_noteFresh wsX3_noteFresh) := goodIn_app (goodIn_of _ (by decide +kernel)) ggX3_append_X3_noteFresh
set_option maxRecDepth 20000 in
theorem ggX3_openNext_X3_leastFree : GoodIn wsX3_openNext wsX3_leastFree := goodIn_r _ [9, 10, 53, 54, 55, 56, 57, 58, 59, 60, 61, 62, 63, 64, 65, 66] rfl (by decide +kernel)
set_option maxRecDepth 20000 in
theorem gX3_openNext_X3_leastFree : GoodIn wsX3_openNext (wsV RX3 124 RX3 yX3_leastFree wsX3_leastFree) := goodIn_app (goodIn_of _ (by decide +kernel)) ggX3_openNext_X3_leastFree
set_option maxRecDepth 20000 in
theorem ggX3_openNext_X3_use : GoodIn wsX3_openNext wsX3_use := goodIn_r _ [14, 10, 15, 16, 17, 53, 54, 55, 56, 57, 58, 59, 60, 61, 62, 63, 64, 65, 66] rfl (by decide +kernel)
set_option maxRecDepth 20000 in
theorem gX3_openNext_X3_use : GoodIn wsX3_openNext (wsV RX3 127 RX3 yX3_use wsX3_use) := goodIn_app (goodIn_of _ (by decide +kernel)) ggX3_openNext_X3_use
set_option maxRecDepth 20000 in
theorem ggX3_openNext_X3_forgetTimes : GoodIn wsX3_openNext wsX3_forgetTimes := goodIn_r _ [21, 22, 15, 16, 17, 53, 54, 55, 56, 57, 58, 59, 60, 61, 62, 63, 64, 65, 66] rfl (by decide +kernel)
set_option maxRecDepth 20000 in
theorem gX3_openNext_X3_forgetTimes : GoodIn wsX3_openNext (wsV RX3 130 RX3 yX3_forgetTimes wsX3_forgetTimes) := goodIn_app (goodIn_of _ (by decide +kernel)) ggX3_openNext_X3_forgetTimes
set_option maxRecDepth 20000 in
theorem ggX3_openNext_X4_clear : GoodIn wsX3_openNext wsX4_clear := goodIn_r _ [26, 27, 28, 25, 29] rfl (by decide +kernel)
set_option maxRecDepth 20000 in
theorem gX3_openNext_X4_clear : GoodIn wsX3_openNext (va_wsS RX3 133 yX4_clear wsX4_clear) := goodIn_app (goodIn_of _ (by decide +kernel)) ggX3_openNext_X4_clear
set_option maxRecDepth 20000 in
theorem ggX3_openNext_X4_setNumber : GoodIn wsX3_openNext wsX4_setNumber := goodIn_r _ [32, 27, 28, 25, 29] rfl (by decide +kernel)
set_option maxRecDepth 20000 in
theorem gX3_openNext_X4_setNumber : GoodIn wsX3_openNext (va_wsS RX3 100 yX4_setNumber wsX4_setNumber) := goodIn_app (goodIn_of _ (by decide +kernel)) ggX3_openNext_X4_setNumber
set_option maxRecDepth 20000 in
theorem ggX3_openNext_X4_setSum : GoodIn wsX3_openNext wsX4_setSum := goodIn_r _ [35, 36, 37, 25, 38, 39, 27, 28, 29, 40, 41, 42, 43, 44, 31, 32] rfl (by decide +kernel)
set_option maxRecDepth 20000 in
theorem gX3_openNext_X4_setSum : GoodIn wsX3_openNext (va_wsS RX3 108 yX4_setSum wsX4_setSum) := goodIn_app (goodIn_of _ (by decide +kernel)) ggX3_openNext_X4_setSum
set_option maxRecDepth 20000 in
theorem ggX3_openNext_X3_noteFresh : GoodIn wsX3_openNext wsX3_noteFresh := goodIn_r _ [48, 1, 49, 50, 51, 2, 52, 15, 16, 17, 53, 54, 55, 56, 57, 58, 59, 60, 61, 62, 63, 64, 65, 66] rfl (by decide +kernel)
set_option maxRecDepth 20000 in
theorem gX3_openNext_X3_noteFresh : GoodIn wsX3_openNext (wsV RX3 120 RX3 yX3_noteFresh wsX3_noteFresh) := goodIn_app (goodIn_of _ (by decide +kernel)) ggX3_openNext_X3_noteFresh
set_option maxRecDepth 20000 in
theorem ggX3_noteFresh_X7_isOfLog : GoodIn wsX3_noteFresh wsX7_isOfLog := goodIn_r _ [9] rfl (by decide +kernel)
set_option maxRecDepth 20000 in
theorem gX3_noteFresh_X7_isOfLog_n65 : GoodIn wsX3_noteFresh (wsX7_isOfLog) := ggX3_noteFresh_X7_isOfLog
set_option maxRecDepth 20000 in
theorem ggX3_loadMemory_X3_isUsed : GoodIn wsX3_loadMemory wsX3_isUsed := goodIn_r _ [8, 9, 10, 11, 12, 32, 33, 34, 35, 36, 37, 38, 39, 40, 41, 42, 43, 44, 45] rfl (by decide +kernel)
set_option maxRecDepth 20000 in
theorem gX3_loadMemory_X3_isUsed : GoodIn wsX3_loadMemory (wsV RX3 156 RX3 yX3_isUsed wsX3_isUsed) := goodIn_app (goodIn_of _ (by decide +kernel)) ggX3_loadMemory_X3_isUsed
set_option maxRecDepth 20000 in
theorem ggX4_number_X4_isWithin : GoodIn wsX4_number wsX4_isWithin := goodIn_r _ [4] rfl (by decide +kernel)
set_option maxRecDepth 20000 in
theorem gX4_number_X4_isWithin : GoodIn wsX4_number (va_wsS RX4 7 yX4_isWithin wsX4_isWithin) := goodIn_app (goodIn_of _ (by decide +kernel)) ggX4_number_X4_isWithin
set_option maxRecDepth 20000 in
theorem ggX4_setNumber_X4_isWithin : GoodIn wsX4_setNumber wsX4_isWithin := goodIn_r _ [4] rfl (by decide +kernel)
set_option maxRecDepth 20000 in
theorem gX4_setNumber_X4_isWithin : GoodIn wsX4_setNumber (va_wsS RX4 7 yX4_isWithin wsX4_isWithin) := goodIn_app (goodIn_of _ (by decide +kernel)) ggX4_setNumber_X4_isWithin
set_option maxRecDepth 20000 in
theorem ggX4_sum_X4_isWithin : GoodIn wsX4_sum wsX4_isWithin := goodIn_r _ [5] rfl (by decide +kernel)
set_option maxRecDepth 20000 in
theorem gX4_sum_X4_isWithin : GoodIn wsX4_sum (va_wsS RX4 7 yX4_isWithin wsX4_isWithin) := goodIn_app (goodIn_of _ (by decide +kernel)) ggX4_sum_X4_isWithin
set_option maxRecDepth 20000 in
theorem ggX4_sum_J6_rotateLeft_7cf53 : GoodIn wsX4_sum wsJ6_rotateLeft_7cf53 := goodIn_r _ [9] rfl (by decide +kernel)
set_option maxRecDepth 20000 in
theorem gX4_sum_J6_rotateLeft_7cf53 : GoodIn wsX4_sum (va_wsS RX4 13 yJ6_rotateLeft_7cf53 wsJ6_rotateLeft_7cf53) := goodIn_app (goodIn_of _ (by decide +kernel)) ggX4_sum_J6_rotateLeft_7cf53
set_option maxRecDepth 20000 in
theorem ggX4_setSum_X4_sum : GoodIn wsX4_setSum wsX4_sum := goodIn_r _ [4, 5, 6, 7, 3, 8, 9, 10, 11, 12] rfl (by decide +kernel)
set_option maxRecDepth 20000 in
theorem gX4_setSum_X4_sum : GoodIn wsX4_setSum (va_wsS RX4 20 yX4_sum wsX4_sum) := goodIn_app (goodIn_of _ (by decide +kernel)) ggX4_setSum_X4_sum
set_option maxRecDepth 20000 in
theorem ggX4_setSum_X4_setNumber : GoodIn wsX4_setSum wsX4_setNumber := goodIn_r _ [15, 6, 7, 3, 8] rfl (by decide +kernel)
set_option maxRecDepth 20000 in
theorem gX4_setSum_X4_setNumber : GoodIn wsX4_setSum (va_wsS RX4 24 yX4_setNumber wsX4_setNumber) := goodIn_app (goodIn_of _ (by decide +kernel)) ggX4_setSum_X4_setNumber
set_option maxRecDepth 20000 in
theorem ggX4_copy_X4_isWithin : GoodIn wsX4_copy wsX4_isWithin := goodIn_r _ [8] rfl (by decide +kernel)
set_option maxRecDepth 20000 in
theorem gX4_copy_X4_isWithin : GoodIn wsX4_copy (va_wsS RX4 7 yX4_isWithin wsX4_isWithin) := goodIn_app (goodIn_of _ (by decide +kernel)) ggX4_copy_X4_isWithin
set_option maxRecDepth 20000 in
theorem ggX4_clear_X4_isWithin : GoodIn wsX4_clear wsX4_isWithin := goodIn_r _ [4] rfl (by decide +kernel)
set_option maxRecDepth 20000 in
theorem gX4_clear_X4_isWithin : GoodIn wsX4_clear (va_wsS RX4 7 yX4_isWithin wsX4_isWithin) := goodIn_app (goodIn_of _ (by decide +kernel)) ggX4_clear_X4_isWithin
set_option maxRecDepth 20000 in
theorem ggX5_takeCheckpoint_X3_setAsAtFirst : GoodIn wsX5_takeCheckpoint wsX3_setAsAtFirst := goodIn_r _ [8, 9, 10, 11, 12, 13, 14, 15, 16, 17, 18, 19, 176, 177, 178, 179, 180, 181, 182, 183, 184, 185, 186, 187, 188, 189] rfl (by decide +kernel)
set_option maxRecDepth 20000 in
theorem gX5_takeCheckpoint_X3_setAsAtFirst : GoodIn wsX5_takeCheckpoint (wsV RX5 27 RX3 yX3_setAsAtFirst wsX3_setAsAtFirst) := goodIn_app (goodIn_of _ (by decide +kernel)) ggX5_takeCheckpoint_X3_setAsAtFirst
set_option maxRecDepth 20000 in
theorem ggX5_takeCheckpoint_X6_setAsAtFirst : GoodIn wsX5_takeCheckpoint wsX6_setAsAtFirst := goodIn_r _ [24, 25, 26, 190, 191, 192, 193, 194, 195] rfl (by decide +kernel)
set_option maxRecDepth 20000 in
theorem gX5_takeCheckpoint_X6_setAsAtFirst : GoodIn wsX5_takeCheckpoint (wsV RX5 32 RX6 yX6_setAsAtFirst wsX6_setAsAtFirst) := goodIn_app (goodIn_of _ (by decide +kernel)) ggX5_takeCheckpoint_X6_setAsAtFirst
set_option maxRecDepth 20000 in
theorem ggX5_takeCheckpoint_X2_clear : GoodIn wsX5_takeCheckpoint wsX2_clear := goodIn_r _ [31, 32, 33, 34, 35, 17, 18, 19, 196, 197, 198] rfl (by decide +kernel)
set_option maxRecDepth 20000 in
theorem gX5_takeCheckpoint_X2_clear : GoodIn wsX5_takeCheckpoint (wsV RX5 35 RX2 yX2_clear wsX2_clear) := goodIn_app (goodIn_of _ (by decide +kernel)) ggX5_takeCheckpoint_X2_clear
set_option maxRecDepth 20000 in
theorem ggX5_takeCheckpoint_X6_newest : GoodIn wsX5_takeCheckpoint wsX6_newest := goodIn_r _ [39, 40, 41, 42, 23, 43, 44, 45, 46, 47, 48, 49, 50, 51, 52, 53, 54, 55, 56, 57, 58, 59, 60, 61, 62, 63, 64, 65, 66, 67, 68, 69, 70, 71, 72, 73, 74, 75, 76, 77, 78, 79, 80, 81, 82, 83, 84, 85, 86, 87, 88, 89, 90, 91, 92, 93, 94, 95, 96, 97, 98, 99, 100, 101, 102, 103, 104, 190, 191, 192, 193, 194, 195, 199, 200, 201, 202, 203] rfl (by decide +kernel)
set_option maxRecDepth 20000 in
theorem gX5_takeCheckpoint_X6_newest : GoodIn wsX5_takeCheckpoint (wsV RX5 40 RX6 yX6_newest wsX6_newest) := goodIn_app (goodIn_of _ (by decide +kernel)) ggX5_takeCheckpoint_X6_newest
set_option maxRecDepth 20000 in
theorem ggX5_goThrough_X5_findNext : GoodIn wsX5_goThrough wsX5_findNext := goodIn_r _ [5, 6, 7, 8, 9, 4, 10, 11, 12, 13, 14, 15, 16, 17, 18, 19, 20, 21, 22, 23, 24, 25, 26, 27, 28, 29, 30, 31, 32, 33, 34, 35, 36, 37, 38, 39, 40, 41, 42, 43, 44, 45, 46, 47, 48, 49, 50, 51, 52, 53, 54, 55, 56, 57, 58, 59, 60, 61, 62, 63, 64, 65, 66, 67, 68, 69, 70, 71, 72, 73, 74, 75, 76, 77, 78, 79, 80, 81, 100, 101, 102, 103, 104, 105, 106, 107, 108, 109, 110, 111, 112, 113, 114, 115, 116, 117, 118, 119, 120, 121, 122] rfl (by decide +kernel)
set_option maxRecDepth 20000 in
theorem gX5_goThrough_X5_findNext : GoodIn wsX5_goThrough (wsV RX5 96 RX5 yX5_findNext wsX5_findNext) := goodIn_app (goodIn_of _ (by decide +kernel)) ggX5_goThrough_X5_findNext
set_option maxRecDepth 20000 in
theorem ggX5_findNext_X5_isNext : GoodIn wsX5_findNext wsX5_isNext := goodIn_r _ [6, 7, 1, 8, 9, 10, 5, 11, 12, 13, 14, 15, 16, 17, 18, 19, 20, 21, 22, 23, 24, 25, 26, 27, 28, 29, 30, 31, 32, 33, 34, 35, 36, 37, 38, 39, 40, 41, 42, 43, 44, 45, 46, 47, 48, 49, 50, 51, 52, 53, 54, 55, 56, 57, 58, 59, 60, 61, 62, 63, 78, 79, 80, 81, 96, 97, 98, 99, 100, 82, 83, 84, 85, 86, 87, 88, 89, 90, 91, 92, 93, 94, 95] rfl (by decide +kernel)
set_option maxRecDepth 20000 in
theorem gX5_findNext_X5_isNext : GoodIn wsX5_findNext (wsV RX5 103 RX5 yX5_isNext wsX5_isNext) := goodIn_app (goodIn_of _ (by decide +kernel)) ggX5_findNext_X5_isNext
set_option maxRecDepth 20000 in
theorem ggX5_findNext_X3_isUsed : GoodIn wsX5_findNext wsX3_isUsed := goodIn_r _ [68, 69, 12, 13, 14, 82, 83, 84, 85, 86, 87, 88, 89, 90, 91, 92, 93, 94, 95] rfl (by decide +kernel)
set_option maxRecDepth 20000 in
theorem gX5_findNext_X3_isUsed : GoodIn wsX5_findNext (wsV RX5 76 RX3 yX3_isUsed wsX3_isUsed) := goodIn_app (goodIn_of _ (by decide +kernel)) ggX5_findNext_X3_isUsed
set_option maxRecDepth 20000 in
theorem ggX5_findNext_X5_hasNextHead : GoodIn wsX5_findNext wsX5_hasNextHead := goodIn_r _ [73, 7, 1, 19, 20, 21, 22, 23, 24, 25, 36, 37, 38, 39, 40, 41, 42, 43, 44, 45, 46, 47, 48, 49, 50, 51, 52, 53, 54, 55, 56, 57, 58, 59, 60, 61, 62, 63, 78, 79, 80, 81, 96, 97, 98, 99, 100, 82, 83, 84, 85, 86, 87, 88, 89, 90, 91, 92, 93, 94, 95] rfl (by decide +kernel)
set_option maxRecDepth 20000 in
theorem gX5_findNext_X5_hasNextHead : GoodIn wsX5_findNext (wsV RX5 107 RX5 yX5_hasNextHead wsX5_hasNextHead) := goodIn_app (goodIn_of _ (by decide +kernel)) ggX5_findNext_X5_hasNextHead
set_option maxRecDepth 20000 in
theorem ggX5_isNext_X5_rightLength : GoodIn wsX5_isNext wsX5_rightLength := goodIn_r _ [7, 1, 8, 9, 10, 11, 12, 13, 6, 14, 15, 16, 17, 18, 19, 20, 21, 22, 23, 24, 25, 26, 27, 28, 29, 30, 31, 32, 33, 34, 35, 36, 37, 38, 39, 40, 41, 42, 43, 44, 45, 46, 47, 48, 49, 50, 51, 52, 53, 54, 55, 56, 57, 58, 59, 60, 61, 62, 63, 64, 65, 66, 67, 68] rfl (by decide +kernel)
set_option maxRecDepth 20000 in
theorem gX5_isNext_X5_rightLength : GoodIn wsX5_isNext (wsV RX5 73 RX5 yX5_rightLength wsX5_rightLength) := goodIn_app (goodIn_of _ (by decide +kernel)) ggX5_isNext_X5_rightLength
set_option maxRecDepth 20000 in
theorem ggX5_hasNextHead_X4_number : GoodIn wsX5_hasNextHead wsX4_number := goodIn_r _ [6, 7, 8, 5, 9] rfl (by decide +kernel)
set_option maxRecDepth 20000 in
theorem gX5_hasNextHead_X4_number : GoodIn wsX5_hasNextHead (va_wsS RX5 122 yX4_number wsX4_number) := goodIn_app (goodIn_of _ (by decide +kernel)) ggX5_hasNextHead_X4_number
set_option maxRecDepth 20000 in
theorem ggX5_fillMemory_X3_loadMemory : GoodIn wsX5_fillMemory wsX3_loadMemory := goodIn_r _ [7, 8, 9, 10, 11, 12, 13, 6, 14, 15, 16, 17, 18, 19, 20, 21, 22, 23, 24, 25, 26, 27, 28, 29, 30, 31, 32, 110, 111, 112, 113, 114, 115, 116, 117, 118, 119, 120, 121, 122, 123, 124, 125, 126, 127, 128] rfl (by decide +kernel)
set_option maxRecDepth 20000 in
theorem gX5_fillMemory_X3_loadMemory : GoodIn wsX5_fillMemory (wsV RX5 148 RX3 yX3_loadMemory wsX3_loadMemory) := goodIn_app (goodIn_of _ (by decide +kernel)) ggX5_fillMemory_X3_loadMemory
set_option maxRecDepth 20000 in
theorem ggX5_fillMemory_X3_forgetTimes : GoodIn wsX5_fillMemory wsX3_forgetTimes := goodIn_r _ [36, 37, 16, 17, 18, 115, 116, 117, 118, 119, 120, 121, 122, 123, 124, 125, 126, 127, 128] rfl (by decide +kernel)
set_option maxRecDepth 20000 in
theorem gX5_fillMemory_X3_forgetTimes : GoodIn wsX5_fillMemory (wsV RX5 152 RX3 yX3_forgetTimes wsX3_forgetTimes) := goodIn_app (goodIn_of _ (by decide +kernel)) ggX5_fillMemory_X3_forgetTimes
set_option maxRecDepth 20000 in
theorem ggX5_fillMemory_X3_isUsed : GoodIn wsX5_fillMemory wsX3_isUsed := goodIn_r _ [14, 15, 16, 17, 18, 115, 116, 117, 118, 119, 120, 121, 122, 123, 124, 125, 126, 127, 128] rfl (by decide +kernel)
set_option maxRecDepth 20000 in
theorem gX5_fillMemory_X3_isUsed : GoodIn wsX5_fillMemory (wsV RX5 76 RX3 yX3_isUsed wsX3_isUsed) := goodIn_app (goodIn_of _ (by decide +kernel)) ggX5_fillMemory_X3_isUsed
set_option maxRecDepth 20000 in
theorem ggX5_rightLength_X7_isOfLog : GoodIn wsX5_rightLength wsX7_isOfLog := goodIn_r _ [4] rfl (by decide +kernel)
set_option maxRecDepth 20000 in
theorem gX5_rightLength_X7_isOfLog_n162 : GoodIn wsX5_rightLength (wsX7_isOfLog) := ggX5_rightLength_X7_isOfLog
set_option maxRecDepth 20000 in
theorem ggX6_write_X6_fillRow : GoodIn wsX6_write wsX6_fillRow := goodIn_r _ [9, 3, 4, 10, 11, 12, 13, 14, 15, 16, 17, 18, 19, 20, 21, 22, 23, 24, 25, 26, 27, 28, 29, 30, 31, 32, 33, 34, 35, 36, 37, 38, 39, 40, 41, 42, 43, 44, 45, 46, 47, 48, 49, 50, 51, 52, 53, 54, 55, 56, 57, 58, 59, 60, 82, 83, 84, 85, 86, 87, 88, 89, 90, 91, 92, 93, 94, 95, 96, 97, 98, 99, 100, 101, 102, 103, 104] rfl (by decide +kernel)
set_option maxRecDepth 20000 in
theorem gX6_write_X6_fillRow : GoodIn wsX6_write (wsV RX6 34 RX6 yX6_fillRow wsX6_fillRow) := goodIn_app (goodIn_of _ (by decide +kernel)) ggX6_write_X6_fillRow
set_option maxRecDepth 20000 in
theorem ggX6_write_X1_write : GoodIn wsX6_write wsX1_write := goodIn_r _ [65, 66, 67, 68, 69, 70, 71, 72, 73, 74, 75, 76, 18, 77, 78, 79, 80, 81, 20, 21, 22, 105, 106, 107, 108, 109] rfl (by decide +kernel)
set_option maxRecDepth 20000 in
theorem gX6_write_X1_write : GoodIn wsX6_write (wsV RX6 38 RX1 yX1_write wsX1_write) := goodIn_app (goodIn_of _ (by decide +kernel)) ggX6_write_X1_write
set_option maxRecDepth 20000 in
theorem ggX6_fillRow_J7_fill_031fb : GoodIn wsX6_fillRow wsJ7_fill_031fb := goodIn_r _ [8] rfl (by decide +kernel)
set_option maxRecDepth 20000 in
theorem gX6_fillRow_J7_fill_031fb : GoodIn wsX6_fillRow (va_wsS RX6 44 yJ7_fill_031fb wsJ7_fill_031fb) := goodIn_app (goodIn_of _ (by decide +kernel)) ggX6_fillRow_J7_fill_031fb
set_option maxRecDepth 20000 in
theorem ggX6_fillRow_X4_setNumber : GoodIn wsX6_fillRow wsX4_setNumber := goodIn_r _ [12, 13, 14, 11, 15] rfl (by decide +kernel)
set_option maxRecDepth 20000 in
theorem gX6_fillRow_X4_setNumber : GoodIn wsX6_fillRow (va_wsS RX6 50 yX4_setNumber wsX4_setNumber) := goodIn_app (goodIn_of _ (by decide +kernel)) ggX6_fillRow_X4_setNumber
set_option maxRecDepth 20000 in
theorem ggX6_fillRow_X2_has : GoodIn wsX6_fillRow wsX2_has := goodIn_r _ [20, 21, 22, 23, 24, 25, 26, 74, 75, 76] rfl (by decide +kernel)
set_option maxRecDepth 20000 in
theorem gX6_fillRow_X2_has : GoodIn wsX6_fillRow (wsV RX6 78 RX2 yX2_has wsX2_has) := goodIn_app (goodIn_of _ (by decide +kernel)) ggX6_fillRow_X2_has
set_option maxRecDepth 20000 in
theorem ggX6_fillRow_X3_isUsed : GoodIn wsX6_fillRow wsX3_isUsed := goodIn_r _ [40, 41, 25, 23, 26, 60, 61, 62, 63, 64, 65, 66, 67, 68, 69, 70, 71, 72, 73] rfl (by decide +kernel)
set_option maxRecDepth 20000 in
theorem gX6_fillRow_X3_isUsed : GoodIn wsX6_fillRow (wsV RX6 89 RX3 yX3_isUsed wsX3_isUsed) := goodIn_app (goodIn_of _ (by decide +kernel)) ggX6_fillRow_X3_isUsed
set_option maxRecDepth 20000 in
theorem ggX6_fillRow_X4_setSum : GoodIn wsX6_fillRow wsX4_setSum := goodIn_r _ [44, 45, 46, 11, 47, 48, 13, 14, 15, 49, 50, 51, 52, 53, 10, 12] rfl (by decide +kernel)
set_option maxRecDepth 20000 in
theorem gX6_fillRow_X4_setSum : GoodIn wsX6_fillRow (va_wsS RX6 92 yX4_setSum wsX4_setSum) := goodIn_app (goodIn_of _ (by decide +kernel)) ggX6_fillRow_X4_setSum
set_option maxRecDepth 20000 in
theorem ggX6_newest_X6_isRight : GoodIn wsX6_newest wsX6_isRight := goodIn_r _ [5, 6, 7, 8, 9, 4, 10, 11, 12, 13, 14, 15, 16, 17, 18, 19, 20, 21, 22, 23, 24, 25, 26, 27, 28, 29, 30, 31, 32, 33, 34, 35, 36, 37, 38, 39, 40, 41, 42, 43, 44, 45, 46, 47, 48, 49, 50, 51, 52, 53, 54, 55, 56, 57, 58, 59, 60, 61, 62, 63, 64, 65, 66, 67, 68, 69, 70, 71, 72, 73, 74, 75, 76, 77] rfl (by decide +kernel)
set_option maxRecDepth 20000 in
theorem gX6_newest_X6_isRight : GoodIn wsX6_newest (wsV RX6 96 RX6 yX6_isRight wsX6_isRight) := goodIn_app (goodIn_of _ (by decide +kernel)) ggX6_newest_X6_isRight
set_option maxRecDepth 20000 in
theorem ggX6_numberAt_X4_number : GoodIn wsX6_numberAt wsX4_number := goodIn_r _ [5, 6, 7, 4, 8] rfl (by decide +kernel)
set_option maxRecDepth 20000 in
theorem gX6_numberAt_X4_number : GoodIn wsX6_numberAt (va_wsS RX6 104 yX4_number wsX4_number) := goodIn_app (goodIn_of _ (by decide +kernel)) ggX6_numberAt_X4_number
set_option maxRecDepth 20000 in
theorem ggX6_isRight_X6_numberAt : GoodIn wsX6_isRight wsX6_numberAt := goodIn_r _ [6, 1, 7, 8, 9, 10, 11, 12, 13, 63, 64, 65, 66, 67, 68, 69, 70, 71, 72, 73] rfl (by decide +kernel)
set_option maxRecDepth 20000 in
theorem gX6_isRight_X6_numberAt : GoodIn wsX6_isRight (wsV RX6 99 RX6 yX6_numberAt wsX6_numberAt) := goodIn_app (goodIn_of _ (by decide +kernel)) ggX6_isRight_X6_numberAt
set_option maxRecDepth 20000 in
theorem ggX7_init_X1_init : GoodIn wsX7_init wsX1_init := goodIn_r _ [33, 34, 2, 3, 35, 28, 36, 37, 38, 39, 40, 41, 96, 97, 98, 99, 100] rfl (by decide +kernel)
set_option maxRecDepth 20000 in
theorem gX7_init_X1_init_n9 : GoodIn wsX7_init (wsX1_init) := ggX7_init_X1_init
set_option maxRecDepth 20000 in
theorem ggX7_init_X2_init : GoodIn wsX7_init wsX2_init := goodIn_r _ [43, 44, 2, 3, 37, 45, 46, 47, 110, 111, 112] rfl (by decide +kernel)
set_option maxRecDepth 20000 in
theorem gX7_init_X2_init_n18 : GoodIn wsX7_init (wsX2_init) := ggX7_init_X2_init
set_option maxRecDepth 20000 in
theorem ggX7_init_X3_init : GoodIn wsX7_init wsX3_init := goodIn_r _ [50, 51, 2, 3, 52, 28, 53, 37, 54, 55, 56, 57, 58, 59, 60, 61, 62, 63, 64, 65, 66, 67, 113, 114, 115, 116, 117, 118, 119, 120, 121, 122, 123, 124, 125, 126] rfl (by decide +kernel)
set_option maxRecDepth 20000 in
theorem gX7_init_X3_init : GoodIn wsX7_init (wsX3_init) := ggX7_init_X3_init
set_option maxRecDepth 20000 in
theorem ggX7_init_X0_init : GoodIn wsX7_init wsX0_init := goodIn_r _ [70, 71, 2, 3, 55, 72, 37, 73, 74, 75, 76, 77, 127, 128, 129, 130, 131, 132] rfl (by decide +kernel)
set_option maxRecDepth 20000 in
theorem gX7_init_X0_init : GoodIn wsX7_init (wsX0_init) := ggX7_init_X0_init
set_option maxRecDepth 20000 in
theorem ggX7_init_X6_init : GoodIn wsX7_init wsX6_init := goodIn_r _ [80, 81, 2, 3, 28, 82, 83, 84, 85, 86, 87, 133, 134, 135, 136, 137, 138] rfl (by decide +kernel)
set_option maxRecDepth 20000 in
theorem gX7_init_X6_init : GoodIn wsX7_init (wsX6_init) := ggX7_init_X6_init
set_option maxRecDepth 20000 in
theorem ggX7_init_X5_init : GoodIn wsX7_init wsX5_init := goodIn_r _ [90, 91, 2, 3, 92, 93, 94, 95, 139, 140, 141, 142] rfl (by decide +kernel)
set_option maxRecDepth 20000 in
theorem gX7_init_X5_init : GoodIn wsX7_init (wsX5_init) := ggX7_init_X5_init
set_option maxRecDepth 20000 in
theorem ggX7_put_X7_isKey : GoodIn wsX7_put wsX7_isKey := goodIn_r _ [8] rfl (by decide +kernel)
set_option maxRecDepth 20000 in
theorem gX7_put_X7_isKey : GoodIn wsX7_put (va_wsS RX7 71 yX7_isKey wsX7_isKey) := goodIn_app (goodIn_of _ (by decide +kernel)) ggX7_put_X7_isKey
set_option maxRecDepth 20000 in
theorem ggX7_put_X3_hasRoomFor : GoodIn wsX7_put wsX3_hasRoomFor := goodIn_r _ [13, 14, 15, 16, 12, 17, 18, 19, 20, 21, 22, 23, 24, 111, 112, 113, 114, 115, 116, 117, 118, 119, 120, 121, 122, 123, 124] rfl (by decide +kernel)
set_option maxRecDepth 20000 in
theorem gX7_put_X3_hasRoomFor : GoodIn wsX7_put (wsV RX7 75 RX3 yX3_hasRoomFor wsX3_hasRoomFor) := goodIn_app (goodIn_of _ (by decide +kernel)) ggX7_put_X3_hasRoomFor
set_option maxRecDepth 20000 in
theorem ggX7_put_X3_append : GoodIn wsX7_put wsX3_append := goodIn_r _ [28, 29, 18, 19, 30, 31, 14, 15, 16, 12, 17, 32, 33, 34, 35, 36, 37, 38, 39, 40, 24, 41, 42, 43, 44, 45, 7, 46, 47, 48, 49, 50, 51, 52, 53, 54, 55, 56, 57, 58, 59, 60, 61, 62, 63, 64, 65, 66, 67, 68, 69, 70, 71, 72, 73, 74, 75, 76, 77, 78, 79, 80, 81, 82, 83, 84, 85, 86, 87, 88, 89, 90, 91, 92, 93, 94, 95, 96, 6, 8, 97, 98, 99, 100, 101, 111, 112, 113, 114, 115, 116, 117, 118, 119, 120, 121, 122, 123, 124, 125, 126, 127] rfl (by decide +kernel)
set_option maxRecDepth 20000 in
theorem gX7_put_X3_append : GoodIn wsX7_put (wsV RX7 81 RX3 yX3_append wsX3_append) := goodIn_app (goodIn_of _ (by decide +kernel)) ggX7_put_X3_append
set_option maxRecDepth 20000 in
theorem ggX7_remove_X2_has : GoodIn wsX7_remove wsX2_has := goodIn_r _ [9, 10, 11, 12, 13, 14, 15, 128, 129, 130] rfl (by decide +kernel)
set_option maxRecDepth 20000 in
theorem gX7_remove_X2_has : GoodIn wsX7_remove (wsV RX7 85 RX2 yX2_has wsX2_has) := goodIn_app (goodIn_of _ (by decide +kernel)) ggX7_remove_X2_has
set_option maxRecDepth 20000 in
theorem ggX7_size_X2_has : GoodIn wsX7_size wsX2_has := goodIn_r _ [8, 9, 10, 11, 12, 13, 14, 43, 44, 45] rfl (by decide +kernel)
set_option maxRecDepth 20000 in
theorem gX7_size_X2_has : GoodIn wsX7_size (wsV RX7 85 RX2 yX2_has wsX2_has) := goodIn_app (goodIn_of _ (by decide +kernel)) ggX7_size_X2_has
set_option maxRecDepth 20000 in
theorem ggX7_value_X2_has : GoodIn wsX7_value wsX2_has := goodIn_r _ [8, 9, 10, 11, 12, 13, 14, 59, 60, 61] rfl (by decide +kernel)
set_option maxRecDepth 20000 in
theorem gX7_value_X2_has : GoodIn wsX7_value (wsV RX7 85 RX2 yX2_has wsX2_has) := goodIn_app (goodIn_of _ (by decide +kernel)) ggX7_value_X2_has
set_option maxRecDepth 20000 in
theorem ggX7_sync_X3_writeFresh : GoodIn wsX7_sync wsX3_writeFresh := goodIn_r _ [8, 9, 10, 11, 12, 13, 7, 14, 15, 16, 17, 18, 19, 20, 21, 22, 23, 24, 25, 26, 27, 28, 29, 30, 31, 32, 33, 34, 35, 36, 37, 38, 39, 40, 41, 42, 43, 44, 45, 46, 47, 57, 58, 59, 60, 61, 62, 63, 64, 65, 66, 67, 68, 69, 70, 71, 72, 73, 74, 75] rfl (by decide +kernel)
set_option maxRecDepth 20000 in
theorem gX7_sync_X3_writeFresh : GoodIn wsX7_sync (wsV RX7 104 RX3 yX3_writeFresh wsX3_writeFresh) := goodIn_app (goodIn_of _ (by decide +kernel)) ggX7_sync_X3_writeFresh
set_option maxRecDepth 20000 in
theorem ggX7_checkpoint_X3_writeFresh : GoodIn wsX7_checkpoint wsX3_writeFresh := goodIn_r _ [9, 10, 11, 12, 13, 14, 8, 15, 16, 17, 18, 19, 20, 21, 22, 23, 24, 25, 26, 27, 28, 29, 30, 31, 32, 33, 34, 35, 36, 37, 38, 39, 40, 41, 42, 43, 44, 45, 46, 47, 48, 128, 129, 130, 131, 132, 133, 134, 135, 136, 137, 138, 139, 140, 141, 142, 143, 144, 145, 146] rfl (by decide +kernel)
set_option maxRecDepth 20000 in
theorem gX7_checkpoint_X3_writeFresh : GoodIn wsX7_checkpoint (wsV RX7 104 RX3 yX3_writeFresh wsX3_writeFresh) := goodIn_app (goodIn_of _ (by decide +kernel)) ggX7_checkpoint_X3_writeFresh
set_option maxRecDepth 20000 in
theorem ggX7_checkpoint_X6_write : GoodIn wsX7_checkpoint wsX6_write := goodIn_r _ [53, 54, 55, 56, 57, 58, 59, 60, 52, 61, 62, 63, 64, 65, 66, 67, 68, 69, 40, 70, 46, 47, 48, 71, 72, 73, 74, 75, 76, 77, 78, 79, 80, 81, 82, 83, 84, 85, 86, 87, 88, 89, 90, 91, 92, 93, 8, 94, 95, 96, 97, 98, 99, 100, 101, 102, 103, 104, 105, 106, 107, 108, 28, 29, 30, 31, 32, 33, 34, 35, 36, 37, 19, 20, 21, 38, 39, 41, 42, 43, 44, 45, 122, 123, 124, 125, 126, 127, 128, 129, 130, 131, 132, 133, 134, 135, 136, 137, 138, 139, 140, 141, 147, 148, 149, 142, 143, 144, 145, 146] rfl (by decide +kernel)
set_option maxRecDepth 20000 in
theorem gX7_checkpoint_X6_write : GoodIn wsX7_checkpoint (wsV RX7 108 RX6 yX6_write wsX6_write) := goodIn_app (goodIn_of _ (by decide +kernel)) ggX7_checkpoint_X6_write
set_option maxRecDepth 20000 in
theorem ggX7_checkpoint_X3_freeSpent : GoodIn wsX7_checkpoint wsX3_freeSpent := goodIn_r _ [112, 95, 128, 129, 130, 131, 132, 133, 134, 135, 136, 137, 138, 139, 140, 141] rfl (by decide +kernel)
set_option maxRecDepth 20000 in
theorem gX7_checkpoint_X3_freeSpent : GoodIn wsX7_checkpoint (wsV RX7 112 RX3 yX3_freeSpent wsX3_freeSpent) := goodIn_app (goodIn_of _ (by decide +kernel)) ggX7_checkpoint_X3_freeSpent
set_option maxRecDepth 20000 in
theorem ggX7_clean_X0_spend : GoodIn wsX7_clean wsX0_spend := goodIn_r _ [7, 8, 9, 10, 11, 12, 13, 14, 6, 15, 16, 17, 18, 19, 20, 21, 22, 23, 24, 25, 26, 27, 28, 29, 30, 31, 32, 33, 34, 35, 36, 37, 38, 39, 40, 41, 42, 43, 44, 45, 46, 47, 48, 49, 50, 51, 52, 53, 54, 55, 56, 57, 58, 59, 60, 61, 62, 63, 64, 65, 66, 67, 68, 69, 70, 71, 72, 73, 74, 75, 76, 77, 78, 79, 80, 81, 82, 83, 84, 85, 86, 87, 88, 89, 90, 91, 92, 93, 94, 95, 96, 97, 98, 99, 100, 101, 102, 103, 104, 105, 106, 107, 108, 109, 110, 111, 112, 113, 114, 115, 116, 117, 118, 119, 120, 121, 122, 123, 124, 125, 126, 127, 128, 129, 130, 131, 132, 133, 134, 135, 136, 137, 138, 139, 140, 141, 142, 143, 144, 145, 146, 147, 148, 149, 150, 151, 152, 153, 154, 155, 156, 157, 158, 159, 160, 161, 162, 163, 164, 165, 166, 167, 168, 169, 170, 171, 172, 173, 174, 175, 176, 177, 178, 179, 180, 181, 182, 183, 184, 185, 186, 187, 188, 189, 190, 191, 192, 193, 203, 204, 205, 206, 207, 208, 209, 210, 211, 212, 213, 214, 215, 216, 217, 218, 219, 220, 221, 222, 223, 224, 225] rfl (by decide +kernel)
set_option maxRecDepth 20000 in
theorem gX7_clean_X0_spend : GoodIn wsX7_clean (wsV RX7 117 RX0 yX0_spend wsX0_spend) := goodIn_app (goodIn_of _ (by decide +kernel)) ggX7_clean_X0_spend
set_option maxRecDepth 20000 in
theorem ggX7_cut_X1_cutAt : GoodIn wsX7_cut wsX1_cutAt := goodIn_r _ [7, 8, 9, 19, 20, 21, 22, 23] rfl (by decide +kernel)
set_option maxRecDepth 20000 in
theorem gX7_cut_X1_cutAt : GoodIn wsX7_cut (wsV RX7 121 RX1 yX1_cutAt wsX1_cutAt) := goodIn_app (goodIn_of _ (by decide +kernel)) ggX7_cut_X1_cutAt
set_option maxRecDepth 20000 in
theorem ggX7_start_X1_cutAt : GoodIn wsX7_start wsX1_cutAt := goodIn_r _ [8, 9, 10, 254, 255, 256, 257, 258] rfl (by decide +kernel)
set_option maxRecDepth 20000 in
theorem gX7_start_X1_cutAt : GoodIn wsX7_start (wsV RX7 121 RX1 yX1_cutAt wsX1_cutAt) := goodIn_app (goodIn_of _ (by decide +kernel)) ggX7_start_X1_cutAt
set_option maxRecDepth 20000 in
theorem ggX7_start_X5_takeCheckpoint : GoodIn wsX7_start wsX5_takeCheckpoint := goodIn_r _ [15, 16, 17, 18, 19, 20, 21, 22, 23, 24, 25, 26, 27, 28, 29, 30, 31, 32, 33, 34, 35, 36, 37, 38, 39, 40, 41, 42, 43, 44, 45, 46, 47, 48, 49, 50, 51, 52, 53, 54, 55, 56, 57, 58, 59, 60, 61, 62, 63, 64, 65, 66, 67, 68, 69, 70, 71, 72, 73, 7, 74, 75, 76, 77, 78, 79, 80, 81, 82, 83, 84, 85, 86, 87, 88, 89, 90, 91, 92, 93, 94, 95, 96, 97, 98, 99, 100, 101, 102, 103, 104, 105, 106, 107, 108, 109, 110, 111, 112, 113, 114, 115, 116, 117, 118, 119, 120, 121, 122, 123, 124, 125, 126, 127, 128, 129, 130, 131, 132, 133, 134, 135, 14, 136, 137, 138, 139, 140, 141, 142, 143, 144, 145, 146, 147, 148, 149, 150, 151, 152, 153, 154, 155, 156, 157, 158, 159, 160, 161, 162, 163, 164, 165, 166, 167, 168, 169, 170, 171, 172, 173, 174, 175, 176, 177, 178, 179, 180, 181, 182, 183, 184, 259, 260, 261, 262, 263, 264, 265, 266, 267, 268, 269, 270, 271, 272, 273, 274, 275, 276, 277, 278, 279, 280, 281, 282, 283, 284, 285, 254, 255, 256, 257, 258] rfl (by decide +kernel)
set_option maxRecDepth 20000 in
theorem gX7_start_X5_takeCheckpoint : GoodIn wsX7_start (wsV RX7 125 RX5 yX5_takeCheckpoint wsX5_takeCheckpoint) := goodIn_app (goodIn_of _ (by decide +kernel)) ggX7_start_X5_takeCheckpoint
set_option maxRecDepth 20000 in
theorem ggX7_start_X5_goThrough : GoodIn wsX7_start wsX5_goThrough := goodIn_r _ [188, 189, 190, 191, 14, 192, 16, 193, 194, 195, 196, 158, 154, 155, 156, 157, 106, 107, 108, 159, 160, 161, 162, 163, 65, 66, 67, 68, 69, 70, 164, 165, 166, 167, 168, 169, 170, 171, 113, 114, 172, 72, 73, 7, 74, 75, 76, 77, 78, 79, 80, 81, 82, 83, 84, 85, 86, 87, 88, 89, 90, 91, 92, 93, 94, 95, 96, 97, 173, 174, 175, 22, 176, 24, 197, 198, 199, 200, 201, 130, 131, 132, 202, 203, 204, 205, 18, 206, 181, 182, 183, 45, 184, 47, 49, 48, 207, 208, 209, 210, 259, 260, 261, 262, 263, 264, 265, 266, 267, 268, 269, 270, 271, 272, 273, 274, 275, 276, 254, 255, 256, 257, 258, 283, 284, 285] rfl (by decide +kernel)
set_option maxRecDepth 20000 in
theorem gX7_start_X5_goThrough : GoodIn wsX7_start (wsV RX7 128 RX5 yX5_goThrough wsX5_goThrough) := goodIn_app (goodIn_of _ (by decide +kernel)) ggX7_start_X5_goThrough
set_option maxRecDepth 20000 in
theorem ggX7_start_X5_fillMemory : GoodIn wsX7_start wsX5_fillMemory := goodIn_r _ [214, 16, 158, 215, 216, 217, 22, 218, 219, 26, 27, 220, 174, 175, 176, 24, 106, 107, 108, 221, 222, 66, 223, 224, 225, 226, 227, 68, 69, 70, 228, 229, 230, 231, 232, 233, 234, 235, 173, 236, 237, 238, 14, 239, 177, 178, 179, 180, 154, 155, 156, 157, 159, 160, 161, 162, 163, 65, 67, 164, 165, 166, 167, 168, 169, 170, 171, 113, 114, 172, 72, 73, 7, 74, 75, 76, 77, 78, 79, 80, 81, 82, 83, 84, 85, 86, 87, 88, 89, 90, 91, 92, 93, 94, 95, 96, 97, 207, 208, 209, 210, 240, 241, 242, 243, 244, 259, 260, 261, 262, 254, 255, 256, 257, 258, 263, 264, 265, 266, 267, 268, 269, 270, 271, 272, 273, 274, 275, 276] rfl (by decide +kernel)
set_option maxRecDepth 20000 in
theorem gX7_start_X5_fillMemory : GoodIn wsX7_start (wsV RX7 132 RX5 yX5_fillMemory wsX5_fillMemory) := goodIn_app (goodIn_of _ (by decide +kernel)) ggX7_start_X5_fillMemory
set_option maxRecDepth 20000 in
theorem ggX7_disk_X7_isOctet : GoodIn wsX7_disk wsX7_isOctet := goodIn_r _ [5] rfl (by decide +kernel)
set_option maxRecDepth 20000 in
theorem gX7_disk_X7_isOctet : GoodIn wsX7_disk (va_wsS RX7 135 yX7_isOctet wsX7_isOctet) := goodIn_app (goodIn_of _ (by decide +kernel)) ggX7_disk_X7_isOctet
set_option maxRecDepth 20000 in
theorem ggX7_disk_X4_number : GoodIn wsX7_disk wsX4_number := goodIn_r _ [9, 10, 11, 8, 12] rfl (by decide +kernel)
set_option maxRecDepth 20000 in
theorem gX7_disk_X4_number : GoodIn wsX7_disk (va_wsS RX7 98 yX4_number wsX4_number) := goodIn_app (goodIn_of _ (by decide +kernel)) ggX7_disk_X4_number
set_option maxRecDepth 20000 in
theorem ggX7_poke_X7_isOctet : GoodIn wsX7_poke wsX7_isOctet := goodIn_r _ [5] rfl (by decide +kernel)
set_option maxRecDepth 20000 in
theorem gX7_poke_X7_isOctet : GoodIn wsX7_poke (va_wsS RX7 135 yX7_isOctet wsX7_isOctet) := goodIn_app (goodIn_of _ (by decide +kernel)) ggX7_poke_X7_isOctet
set_option maxRecDepth 20000 in
theorem ggX7_poke_X1_flip : GoodIn wsX7_poke wsX1_flip := goodIn_r _ [10, 11, 12, 13, 14, 15, 16, 17, 18, 19, 20, 21, 31, 32, 33, 34, 35] rfl (by decide +kernel)
set_option maxRecDepth 20000 in
theorem gX7_poke_X1_flip : GoodIn wsX7_poke (wsV RX7 142 RX1 yX1_flip wsX1_flip) := goodIn_app (goodIn_of _ (by decide +kernel)) ggX7_poke_X1_flip
set_option maxRecDepth 20000 in
theorem ggX7_segment_X7_isOfLog : GoodIn wsX7_segment wsX7_isOfLog := goodIn_r _ [6] rfl (by decide +kernel)
set_option maxRecDepth 20000 in
theorem gX7_segment_X7_isOfLog : GoodIn wsX7_segment (va_wsS RX7 146 yX7_isOfLog wsX7_isOfLog) := goodIn_app (goodIn_of _ (by decide +kernel)) ggX7_segment_X7_isOfLog
set_option maxRecDepth 20000 in
theorem ggX7_segment_X3_stateOf : GoodIn wsX7_segment wsX3_stateOf := goodIn_r _ [11, 12, 13, 4, 5, 6, 71, 72, 73, 74, 75, 76, 77, 78, 79, 80, 81, 82, 83, 84] rfl (by decide +kernel)
set_option maxRecDepth 20000 in
theorem gX7_segment_X3_stateOf : GoodIn wsX7_segment (wsV RX7 149 RX3 yX3_stateOf wsX3_stateOf) := goodIn_app (goodIn_of _ (by decide +kernel)) ggX7_segment_X3_stateOf
set_option maxRecDepth 20000 in
theorem ggX7_segment_X3_isUsed : GoodIn wsX7_segment wsX3_isUsed := goodIn_r _ [17, 13, 4, 5, 6, 71, 72, 73, 74, 75, 76, 77, 78, 79, 80, 81, 82, 83, 84] rfl (by decide +kernel)
set_option maxRecDepth 20000 in
theorem gX7_segment_X3_isUsed : GoodIn wsX7_segment (wsV RX7 152 RX3 yX3_isUsed wsX3_isUsed) := goodIn_app (goodIn_of _ (by decide +kernel)) ggX7_segment_X3_isUsed
set_option maxRecDepth 20000 in
theorem ggX7_where_X2_has : GoodIn wsX7_where wsX2_has := goodIn_r _ [8, 9, 10, 11, 12, 13, 14, 55, 56, 57] rfl (by decide +kernel)
set_option maxRecDepth 20000 in
theorem gX7_where_X2_has : GoodIn wsX7_where (wsV RX7 85 RX2 yX2_has wsX2_has) := goodIn_app (goodIn_of _ (by decide +kernel)) ggX7_where_X2_has
set_option maxRecDepth 20000 in
theorem ggX7_told_X7_toldWhileUp : GoodIn wsX7_told wsX7_toldWhileUp := goodIn_r _ [7, 8, 9, 10, 11, 12, 13, 14, 15, 16, 17, 18, 19, 20, 21, 22, 23, 24, 25, 26, 27, 28, 29, 30, 31, 32, 33, 39, 40, 41, 42, 43, 44, 45, 46, 47, 48, 49, 50, 51, 52, 53, 54, 55, 56, 57, 58, 59, 60, 61] rfl (by decide +kernel)
set_option maxRecDepth 20000 in
theorem gX7_told_X7_toldWhileUp : GoodIn wsX7_told (wsV RX7 179 RX7 yX7_toldWhileUp wsX7_toldWhileUp) := goodIn_app (goodIn_of _ (by decide +kernel)) ggX7_told_X7_toldWhileUp
set_option maxRecDepth 20000 in
theorem ggX7_toldWhileUp_X3_countFree : GoodIn wsX7_toldWhileUp wsX3_countFree := goodIn_r _ [8, 9, 27, 28, 29, 30, 31, 32, 33, 34, 35, 36, 37, 38, 39, 40] rfl (by decide +kernel)
set_option maxRecDepth 20000 in
theorem gX7_toldWhileUp_X3_countFree : GoodIn wsX7_toldWhileUp (wsV RX7 191 RX3 yX3_countFree wsX3_countFree) := goodIn_app (goodIn_of _ (by decide +kernel)) ggX7_toldWhileUp_X3_countFree
set_option maxRecDepth 20000 in
theorem ggX7_toldWhileUp_X3_countFreshOctets : GoodIn wsX7_toldWhileUp wsX3_countFreshOctets := goodIn_r _ [13, 14, 15, 16, 17, 27, 28, 29, 30, 31, 32, 33, 34, 35, 36, 37, 38, 39, 40] rfl (by decide +kernel)
set_option maxRecDepth 20000 in
theorem gX7_toldWhileUp_X3_countFreshOctets : GoodIn wsX7_toldWhileUp (wsV RX7 197 RX3 yX3_countFreshOctets wsX3_countFreshOctets) := goodIn_app (goodIn_of _ (by decide +kernel)) ggX7_toldWhileUp_X3_countFreshOctets
set_option maxRecDepth 20000 in
theorem ggX8_openNext_X8_at : GoodIn wsX8_openNext wsX8_at := goodIn_r _ [12] rfl (by decide +kernel)
set_option maxRecDepth 20000 in
theorem gX8_openNext_X8_at : GoodIn wsX8_openNext (va_wsS RX8 72 yX8_at wsX8_at) := goodIn_app (goodIn_of _ (by decide +kernel)) ggX8_openNext_X8_at
set_option maxRecDepth 20000 in
theorem ggX8_openNext_X8_octets : GoodIn wsX8_openNext wsX8_octets := goodIn_r _ [16, 6, 5, 29, 30, 31, 32, 33, 34, 35, 36, 37, 38, 39, 40, 41, 42, 43, 44, 45, 46, 47, 48, 49, 50, 51, 52, 53, 54, 55, 56, 57, 58] rfl (by decide +kernel)
set_option maxRecDepth 20000 in
theorem gX8_openNext_X8_octets : GoodIn wsX8_openNext (wsV RX8 110 RX8 yX8_octets wsX8_octets) := goodIn_app (goodIn_of _ (by decide +kernel)) ggX8_openNext_X8_octets
set_option maxRecDepth 20000 in
theorem ggX8_openNext_X8_sum : GoodIn wsX8_openNext wsX8_sum := goodIn_r _ [19, 20] rfl (by decide +kernel)
set_option maxRecDepth 20000 in
theorem gX8_openNext_X8_sum : GoodIn wsX8_openNext (va_wsS RX8 84 yX8_sum wsX8_sum) := goodIn_app (goodIn_of _ (by decide +kernel)) ggX8_openNext_X8_sum
set_option maxRecDepth 20000 in
theorem ggX8_openNext_X8_came : GoodIn wsX8_openNext wsX8_came := goodIn_r _ [24, 25, 26, 27, 28, 29, 30, 31, 32, 33, 34, 35, 36, 37, 38, 39, 40, 41, 42, 43, 44, 45, 46, 47, 48, 49, 50, 51, 52, 53, 54, 55, 56, 57, 58] rfl (by decide +kernel)
set_option maxRecDepth 20000 in
theorem gX8_openNext_X8_came : GoodIn wsX8_openNext (wsV RX8 114 RX8 yX8_came wsX8_came) := goodIn_app (goodIn_of _ (by decide +kernel)) ggX8_openNext_X8_came
set_option maxRecDepth 20000 in
theorem ggX8_record_X8_opens : GoodIn wsX8_record wsX8_opens := goodIn_r _ [15, 6, 7, 41, 42, 43, 44, 45, 46, 47, 48, 49, 50, 51, 52, 53, 54, 55, 56, 57, 58, 59, 60, 61, 62, 63, 64, 65, 66, 67, 68, 69, 70] rfl (by decide +kernel)
set_option maxRecDepth 20000 in
theorem gX8_record_X8_opens : GoodIn wsX8_record (wsV RX8 118 RX8 yX8_opens wsX8_opens) := goodIn_app (goodIn_of _ (by decide +kernel)) ggX8_record_X8_opens
set_option maxRecDepth 20000 in
theorem ggX8_record_X8_openNext : GoodIn wsX8_record wsX8_openNext := goodIn_r _ [19, 20, 6, 21, 5, 1, 4, 7, 10, 22, 23, 14, 24, 25, 26, 27, 28, 29, 30, 31, 32, 33, 34, 35, 36, 37, 38, 39, 40, 41, 42, 43, 44, 45, 46, 47, 48, 49, 50, 51, 52, 53, 54, 55, 56, 57, 58, 59, 60, 61, 62, 63, 64, 65, 66, 67, 68, 69, 70] rfl (by decide +kernel)
set_option maxRecDepth 20000 in
theorem gX8_record_X8_openNext : GoodIn wsX8_record (wsV RX8 122 RX8 yX8_openNext wsX8_openNext) := goodIn_app (goodIn_of _ (by decide +kernel)) ggX8_record_X8_openNext
set_option maxRecDepth 20000 in
theorem ggX8_record_X8_octets : GoodIn wsX8_record wsX8_octets := goodIn_r _ [28, 4, 1, 41, 42, 43, 44, 45, 46, 47, 48, 49, 50, 51, 52, 53, 54, 55, 56, 57, 58, 59, 60, 61, 62, 63, 64, 65, 66, 67, 68, 69, 70] rfl (by decide +kernel)
set_option maxRecDepth 20000 in
theorem gX8_record_X8_octets : GoodIn wsX8_record (wsV RX8 110 RX8 yX8_octets wsX8_octets) := goodIn_app (goodIn_of _ (by decide +kernel)) ggX8_record_X8_octets
set_option maxRecDepth 20000 in
theorem ggX8_record_X8_sum : GoodIn wsX8_record wsX8_sum := goodIn_r _ [31, 32] rfl (by decide +kernel)
set_option maxRecDepth 20000 in
theorem gX8_record_X8_sum : GoodIn wsX8_record (va_wsS RX8 84 yX8_sum wsX8_sum) := goodIn_app (goodIn_of _ (by decide +kernel)) ggX8_record_X8_sum
set_option maxRecDepth 20000 in
theorem ggX8_record_X8_at : GoodIn wsX8_record wsX8_at := goodIn_r _ [24] rfl (by decide +kernel)
set_option maxRecDepth 20000 in
theorem gX8_record_X8_at : GoodIn wsX8_record (va_wsS RX8 72 yX8_at wsX8_at) := goodIn_app (goodIn_of _ (by decide +kernel)) ggX8_record_X8_at
set_option maxRecDepth 20000 in
theorem ggX8_record_X8_came : GoodIn wsX8_record wsX8_came := goodIn_r _ [36, 37, 38, 39, 40, 41, 42, 43, 44, 45, 46, 47, 48, 49, 50, 51, 52, 53, 54, 55, 56, 57, 58, 59, 60, 61, 62, 63, 64, 65, 66, 67, 68, 69, 70] rfl (by decide +kernel)
set_option maxRecDepth 20000 in
theorem gX8_record_X8_came : GoodIn wsX8_record (wsV RX8 114 RX8 yX8_came wsX8_came) := goodIn_app (goodIn_of _ (by decide +kernel)) ggX8_record_X8_came
set_option maxRecDepth 20000 in
theorem ggX8_feed_X8_in : GoodIn wsX8_feed wsX8_in := goodIn_r _ [7] rfl (by decide +kernel)
set_option maxRecDepth 20000 in
theorem gX8_feed_X8_in : GoodIn wsX8_feed (va_wsS RX8 125 yX8_in wsX8_in) := goodIn_app (goodIn_of _ (by decide +kernel)) ggX8_feed_X8_in
set_option maxRecDepth 20000 in
theorem ggX8_put_X8_in : GoodIn wsX8_put wsX8_in := goodIn_r _ [11] rfl (by decide +kernel)
set_option maxRecDepth 20000 in
theorem gX8_put_X8_in : GoodIn wsX8_put (va_wsS RX8 125 yX8_in wsX8_in) := goodIn_app (goodIn_of _ (by decide +kernel)) ggX8_put_X8_in
set_option maxRecDepth 20000 in
theorem ggX8_put_X8_opens : GoodIn wsX8_put wsX8_opens := goodIn_r _ [15, 16, 17, 57, 58, 59, 60, 61, 62, 63, 64, 65, 66, 67, 68, 69, 70, 71, 72, 73, 74, 75, 76, 77, 78, 79, 80, 81, 82, 83, 84, 85, 86] rfl (by decide +kernel)
set_option maxRecDepth 20000 in
theorem gX8_put_X8_opens : GoodIn wsX8_put (wsV RX8 118 RX8 yX8_opens wsX8_opens) := goodIn_app (goodIn_of _ (by decide +kernel)) ggX8_put_X8_opens
set_option maxRecDepth 20000 in
theorem ggX8_put_X8_frees : GoodIn wsX8_put wsX8_frees := goodIn_r _ [21, 22, 57, 58, 59, 60, 61, 62, 63, 64, 65, 66, 67, 68, 69, 70, 71, 72, 73, 74, 75, 76, 77, 78, 79, 80, 81, 82, 83, 84, 85, 86] rfl (by decide +kernel)
set_option maxRecDepth 20000 in
theorem gX8_put_X8_frees : GoodIn wsX8_put (wsV RX8 136 RX8 yX8_frees wsX8_frees) := goodIn_app (goodIn_of _ (by decide +kernel)) ggX8_put_X8_frees
set_option maxRecDepth 20000 in
theorem ggX8_put_X8_record : GoodIn wsX8_put wsX8_record := goodIn_r _ [26, 27, 7, 4, 28, 29, 16, 17, 30, 31, 32, 12, 13, 14, 10, 15, 33, 34, 35, 36, 22, 37, 38, 39, 40, 41, 42, 43, 44, 45, 46, 47, 48, 49, 50, 51, 52, 53, 54, 55, 56, 57, 58, 59, 60, 61, 62, 63, 64, 65, 66, 67, 68, 69, 70, 71, 72, 73, 74, 75, 76, 77, 78, 79, 80, 81, 82, 83, 84, 85, 86] rfl (by decide +kernel)
set_option maxRecDepth 20000 in
theorem gX8_put_X8_record : GoodIn wsX8_put (wsV RX8 143 RX8 yX8_record wsX8_record) := goodIn_app (goodIn_of _ (by decide +kernel)) ggX8_put_X8_record
set_option maxRecDepth 20000 in
theorem ggX8_none_X8_in : GoodIn wsX8_none wsX8_in := goodIn_r _ [5] rfl (by decide +kernel)
set_option maxRecDepth 20000 in
theorem gX8_none_X8_in : GoodIn wsX8_none (va_wsS RX8 125 yX8_in wsX8_in) := goodIn_app (goodIn_of _ (by decide +kernel)) ggX8_none_X8_in
set_option maxRecDepth 20000 in
theorem ggX8_remove_X8_none : GoodIn wsX8_remove wsX8_none := goodIn_r _ [9, 10, 11, 12, 8, 13, 59, 60, 61, 62, 63, 64, 65, 66, 67, 68, 69, 70, 71, 72, 73, 74, 75, 76, 77, 78, 79, 80, 81, 82, 83, 84, 85, 86, 87, 88] rfl (by decide +kernel)
set_option maxRecDepth 20000 in
theorem gX8_remove_X8_none : GoodIn wsX8_remove (wsV RX8 147 RX8 yX8_none wsX8_none) := goodIn_app (goodIn_of _ (by decide +kernel)) ggX8_remove_X8_none
set_option maxRecDepth 20000 in
theorem ggX8_size_X8_none : GoodIn wsX8_size wsX8_none := goodIn_r _ [7, 8, 9, 10, 6, 11, 21, 22, 23, 24, 25, 26, 27, 28, 29, 30, 31, 32, 33, 34, 35, 36, 37, 38, 39, 40, 41, 42, 43, 44, 45, 46, 47, 48, 49, 50] rfl (by decide +kernel)
set_option maxRecDepth 20000 in
theorem gX8_size_X8_none : GoodIn wsX8_size (wsV RX8 147 RX8 yX8_none wsX8_none) := goodIn_app (goodIn_of _ (by decide +kernel)) ggX8_size_X8_none
set_option maxRecDepth 20000 in
theorem ggX8_value_X8_none : GoodIn wsX8_value wsX8_none := goodIn_r _ [10, 4, 11, 12, 9, 13, 21, 22, 23, 24, 25, 26, 27, 28, 29, 30, 31, 32, 33, 34, 35, 36, 37, 38, 39, 40, 41, 42, 43, 44, 45, 46, 47, 48, 49, 50] rfl (by decide +kernel)
set_option maxRecDepth 20000 in
theorem gX8_value_X8_none : GoodIn wsX8_value (wsV RX8 147 RX8 yX8_none wsX8_none) := goodIn_app (goodIn_of _ (by decide +kernel)) ggX8_value_X8_none
set_option maxRecDepth 20000 in
theorem ggX8_sync_X8_syncAll : GoodIn wsX8_sync wsX8_syncAll := goodIn_r _ [7, 8, 9, 10, 11, 12, 13, 14, 6, 15, 16, 17, 18, 19, 20, 21, 22, 23, 24, 2, 25, 26, 27, 28, 29, 30, 31, 32, 33, 34, 35, 36, 37, 38, 39, 40, 41, 42, 43, 44, 45, 46, 47, 48, 49, 50, 51, 52, 53, 54] rfl (by decide +kernel)
set_option maxRecDepth 20000 in
theorem gX8_sync_X8_syncAll : GoodIn wsX8_sync (wsV RX8 163 RX8 yX8_syncAll wsX8_syncAll) := goodIn_app (goodIn_of _ (by decide +kernel)) ggX8_sync_X8_syncAll
set_option maxRecDepth 20000 in
theorem ggX8_checkpoint_X8_syncAll : GoodIn wsX8_checkpoint wsX8_syncAll := goodIn_r _ [19, 20, 21, 22, 23, 24, 25, 26, 18, 27, 28, 29, 30, 31, 32, 33, 34, 35, 36, 2, 49, 50, 51, 52, 53, 54, 55, 56, 57, 58, 59, 60, 61, 62, 63, 64, 65, 66, 67, 68, 69, 70, 71, 72, 73, 74, 75, 76, 77, 78] rfl (by decide +kernel)
set_option maxRecDepth 20000 in
theorem gX8_checkpoint_X8_syncAll : GoodIn wsX8_checkpoint (wsV RX8 163 RX8 yX8_syncAll wsX8_syncAll) := goodIn_app (goodIn_of _ (by decide +kernel)) ggX8_checkpoint_X8_syncAll
set_option maxRecDepth 20000 in
theorem ggX8_checkpoint_X8_octets : GoodIn wsX8_checkpoint wsX8_octets := goodIn_r _ [40, 13, 3, 49, 50, 51, 52, 53, 54, 55, 56, 57, 58, 59, 60, 61, 62, 63, 64, 65, 66, 67, 68, 69, 70, 71, 72, 73, 74, 75, 76, 77, 78] rfl (by decide +kernel)
set_option maxRecDepth 20000 in
theorem gX8_checkpoint_X8_octets : GoodIn wsX8_checkpoint (wsV RX8 110 RX8 yX8_octets wsX8_octets) := goodIn_app (goodIn_of _ (by decide +kernel)) ggX8_checkpoint_X8_octets
set_option maxRecDepth 20000 in
theorem ggX8_checkpoint_X8_keys : GoodIn wsX8_checkpoint wsX8_keys := goodIn_r _ [44, 10, 49, 50, 51, 52, 53, 54, 55, 56, 57, 58, 59, 60, 61, 62, 63, 64, 65, 66, 67, 68, 69, 70, 71, 72, 73, 74, 75, 76, 77, 78] rfl (by decide +kernel)
set_option maxRecDepth 20000 in
theorem gX8_checkpoint_X8_keys : GoodIn wsX8_checkpoint (wsV RX8 168 RX8 yX8_keys wsX8_keys) := goodIn_app (goodIn_of _ (by decide +kernel)) ggX8_checkpoint_X8_keys
set_option maxRecDepth 20000 in
theorem ggX8_checkpoint_X8_sum : GoodIn wsX8_checkpoint wsX8_sum := goodIn_r _ [47, 48] rfl (by decide +kernel)
set_option maxRecDepth 20000 in
theorem gX8_checkpoint_X8_sum : GoodIn wsX8_checkpoint (va_wsS RX8 84 yX8_sum wsX8_sum) := goodIn_app (goodIn_of _ (by decide +kernel)) ggX8_checkpoint_X8_sum
set_option maxRecDepth 20000 in
theorem ggX8_checkpoint_X8_write : GoodIn wsX8_checkpoint wsX8_write := goodIn_r _ [31, 32, 33, 34, 35, 36, 2, 49, 50, 51, 52, 53, 54, 55, 56, 57, 58, 59, 60, 61, 62, 63, 64, 65, 66, 67, 68, 69, 70, 71, 72, 73, 74, 75, 76, 77, 78] rfl (by decide +kernel)
set_option maxRecDepth 20000 in
theorem gX8_checkpoint_X8_write : GoodIn wsX8_checkpoint (wsV RX8 159 RX8 yX8_write wsX8_write) := goodIn_app (goodIn_of _ (by decide +kernel)) ggX8_checkpoint_X8_write
set_option maxRecDepth 20000 in
theorem ggX8_clean_X8_in : GoodIn wsX8_clean wsX8_in := goodIn_r _ [15] rfl (by decide +kernel)
set_option maxRecDepth 20000 in
theorem gX8_clean_X8_in : GoodIn wsX8_clean (va_wsS RX8 125 yX8_in wsX8_in) := goodIn_app (goodIn_of _ (by decide +kernel)) ggX8_clean_X8_in
set_option maxRecDepth 20000 in
theorem ggX8_clean_X8_best : GoodIn wsX8_clean wsX8_best := goodIn_r _ [19, 11, 3, 20, 21, 22, 23, 24, 25, 14, 26, 4, 27, 28, 29, 30, 10, 8, 31, 32, 33, 81, 82, 83, 84, 85, 86, 87, 88, 89, 90, 91, 92, 93, 94, 95, 96, 97, 98, 99, 100, 101, 102, 103, 104, 105, 106, 107, 108, 109, 110] rfl (by decide +kernel)
set_option maxRecDepth 20000 in
theorem gX8_clean_X8_best : GoodIn wsX8_clean (wsV RX8 176 RX8 yX8_best wsX8_best) := goodIn_app (goodIn_of _ (by decide +kernel)) ggX8_clean_X8_best
set_option maxRecDepth 20000 in
theorem ggX8_clean_X8_frees : GoodIn wsX8_clean wsX8_frees := goodIn_r _ [48, 11, 81, 82, 83, 84, 85, 86, 87, 88, 89, 90, 91, 92, 93, 94, 95, 96, 97, 98, 99, 100, 101, 102, 103, 104, 105, 106, 107, 108, 109, 110] rfl (by decide +kernel)
set_option maxRecDepth 20000 in
theorem gX8_clean_X8_frees : GoodIn wsX8_clean (wsV RX8 136 RX8 yX8_frees wsX8_frees) := goodIn_app (goodIn_of _ (by decide +kernel)) ggX8_clean_X8_frees
set_option maxRecDepth 20000 in
theorem ggX8_tick_X8_in : GoodIn wsX8_tick wsX8_in := goodIn_r _ [8] rfl (by decide +kernel)
set_option maxRecDepth 20000 in
theorem gX8_tick_X8_in : GoodIn wsX8_tick (va_wsS RX8 125 yX8_in wsX8_in) := goodIn_app (goodIn_of _ (by decide +kernel)) ggX8_tick_X8_in
set_option maxRecDepth 20000 in
theorem ggX8_cut_X8_in : GoodIn wsX8_cut wsX8_in := goodIn_r _ [8] rfl (by decide +kernel)
set_option maxRecDepth 20000 in
theorem gX8_cut_X8_in : GoodIn wsX8_cut (va_wsS RX8 125 yX8_in wsX8_in) := goodIn_app (goodIn_of _ (by decide +kernel)) ggX8_cut_X8_in
set_option maxRecDepth 20000 in
theorem ggX8_isRight_X8_number : GoodIn wsX8_isRight wsX8_number := goodIn_r _ [5] rfl (by decide +kernel)
set_option maxRecDepth 20000 in
theorem gX8_isRight_X8_number : GoodIn wsX8_isRight (va_wsS RX8 76 yX8_number wsX8_number) := goodIn_app (goodIn_of _ (by decide +kernel)) ggX8_isRight_X8_number
set_option maxRecDepth 20000 in
theorem ggX8_goesOn_X8_at : GoodIn wsX8_goesOn wsX8_at := goodIn_r _ [9] rfl (by decide +kernel)
set_option maxRecDepth 20000 in
theorem gX8_goesOn_X8_at : GoodIn wsX8_goesOn (va_wsS RX8 72 yX8_at wsX8_at) := goodIn_app (goodIn_of _ (by decide +kernel)) ggX8_goesOn_X8_at
set_option maxRecDepth 20000 in
theorem ggX8_start_X8_isRight : GoodIn wsX8_start wsX8_isRight := goodIn_r _ [23, 7, 24, 25, 22, 26, 27, 28, 29, 30, 31, 32, 33, 34, 35, 36, 37, 38, 66, 67, 68, 69, 70, 71, 72, 73, 74, 75, 76, 77, 78, 79, 80, 81, 82, 83, 84, 85, 86, 87, 88, 89, 90, 91, 92, 93, 94, 95] rfl (by decide +kernel)
set_option maxRecDepth 20000 in
theorem gX8_start_X8_isRight : GoodIn wsX8_start (wsV RX8 189 RX8 yX8_isRight wsX8_isRight) := goodIn_app (goodIn_of _ (by decide +kernel)) ggX8_start_X8_isRight
set_option maxRecDepth 20000 in
theorem ggX8_start_X8_goesOn : GoodIn wsX8_start wsX8_goesOn := goodIn_r _ [61, 9, 6, 12, 10, 11, 51, 52, 22, 53, 24, 25, 26, 27, 28, 29, 30, 31, 32, 33, 34, 35, 54, 55, 56, 57, 13, 47, 48, 49, 50, 66, 67, 68, 69, 70, 71, 72, 73, 74, 75, 76, 77, 78, 79, 80, 81, 82, 83, 84, 85, 86, 87, 88, 89, 90, 91, 92, 93, 94, 95] rfl (by decide +kernel)
set_option maxRecDepth 20000 in
theorem gX8_start_X8_goesOn : GoodIn wsX8_start (wsV RX8 196 RX8 yX8_goesOn wsX8_goesOn) := goodIn_app (goodIn_of _ (by decide +kernel)) ggX8_start_X8_goesOn
set_option maxRecDepth 20000 in
theorem ggX8_disk_X8_in : GoodIn wsX8_disk wsX8_in := goodIn_r _ [6] rfl (by decide +kernel)
set_option maxRecDepth 20000 in
theorem gX8_disk_X8_in : GoodIn wsX8_disk (va_wsS RX8 125 yX8_in wsX8_in) := goodIn_app (goodIn_of _ (by decide +kernel)) ggX8_disk_X8_in
set_option maxRecDepth 20000 in
theorem ggX8_disk_X8_at : GoodIn wsX8_disk wsX8_at := goodIn_r _ [9] rfl (by decide +kernel)
set_option maxRecDepth 20000 in
theorem gX8_disk_X8_at : GoodIn wsX8_disk (va_wsS RX8 72 yX8_at wsX8_at) := goodIn_app (goodIn_of _ (by decide +kernel)) ggX8_disk_X8_at
set_option maxRecDepth 20000 in
theorem ggX8_poke_X8_in : GoodIn wsX8_poke wsX8_in := goodIn_r _ [6] rfl (by decide +kernel)
set_option maxRecDepth 20000 in
theorem gX8_poke_X8_in : GoodIn wsX8_poke (va_wsS RX8 125 yX8_in wsX8_in) := goodIn_app (goodIn_of _ (by decide +kernel)) ggX8_poke_X8_in
set_option maxRecDepth 20000 in
theorem ggX8_poke_X8_at : GoodIn wsX8_poke wsX8_at := goodIn_r _ [9] rfl (by decide +kernel)
set_option maxRecDepth 20000 in
theorem gX8_poke_X8_at : GoodIn wsX8_poke (va_wsS RX8 72 yX8_at wsX8_at) := goodIn_app (goodIn_of _ (by decide +kernel)) ggX8_poke_X8_at
set_option maxRecDepth 20000 in
theorem ggX8_segment_X8_in : GoodIn wsX8_segment wsX8_in := goodIn_r _ [9] rfl (by decide +kernel)
set_option maxRecDepth 20000 in
theorem gX8_segment_X8_in : GoodIn wsX8_segment (va_wsS RX8 125 yX8_in wsX8_in) := goodIn_app (goodIn_of _ (by decide +kernel)) ggX8_segment_X8_in
set_option maxRecDepth 20000 in
theorem ggX8_where_X8_none : GoodIn wsX8_where wsX8_none := goodIn_r _ [9, 3, 10, 11, 8, 12, 28, 29, 30, 31, 32, 33, 34, 35, 36, 37, 38, 39, 40, 41, 42, 43, 44, 45, 46, 47, 48, 49, 50, 51, 52, 53, 54, 55, 56, 57] rfl (by decide +kernel)
set_option maxRecDepth 20000 in
theorem gX8_where_X8_none : GoodIn wsX8_where (wsV RX8 147 RX8 yX8_none wsX8_none) := goodIn_app (goodIn_of _ (by decide +kernel)) ggX8_where_X8_none
set_option maxRecDepth 20000 in
theorem ggX8_told_X8_in : GoodIn wsX8_told wsX8_in := goodIn_r _ [15] rfl (by decide +kernel)
set_option maxRecDepth 20000 in
theorem gX8_told_X8_in : GoodIn wsX8_told (va_wsS RX8 125 yX8_in wsX8_in) := goodIn_app (goodIn_of _ (by decide +kernel)) ggX8_told_X8_in
set_option maxRecDepth 20000 in
theorem ggX8_told_X8_frees : GoodIn wsX8_told wsX8_frees := goodIn_r _ [19, 20, 26, 27, 28, 29, 30, 31, 32, 33, 34, 35, 36, 37, 38, 39, 40, 41, 42, 43, 44, 45, 46, 47, 48, 49, 50, 51, 52, 53, 54, 55] rfl (by decide +kernel)
set_option maxRecDepth 20000 in
theorem gX8_told_X8_frees : GoodIn wsX8_told (wsV RX8 136 RX8 yX8_frees wsX8_frees) := goodIn_app (goodIn_of _ (by decide +kernel)) ggX8_told_X8_frees
set_option maxRecDepth 20000 in
theorem ggX8_told_X8_keys : GoodIn wsX8_told wsX8_keys := goodIn_r _ [24, 25, 26, 27, 28, 29, 30, 31, 32, 33, 34, 35, 36, 37, 38, 39, 40, 41, 42, 43, 44, 45, 46, 47, 48, 49, 50, 51, 52, 53, 54, 55] rfl (by decide +kernel)
set_option maxRecDepth 20000 in
theorem gX8_told_X8_keys : GoodIn wsX8_told (wsV RX8 168 RX8 yX8_keys wsX8_keys) := goodIn_app (goodIn_of _ (by decide +kernel)) ggX8_told_X8_keys
set_option maxRecDepth 20000 in
theorem ggL_law_X7_init : GoodIn wsL_law wsX7_init := goodIn_r _ [9, 10, 11, 12, 13, 14, 15, 16, 17, 18, 19, 20, 21, 22, 23, 24, 25, 26, 27, 28, 29, 30, 31, 32, 33, 34, 35, 36, 37, 38, 39, 40, 41, 42, 43, 44, 45, 46, 47, 48, 49, 50, 51, 52, 53, 54, 55, 56, 57, 58, 59, 60, 61, 62, 63, 64, 65, 66, 67, 68, 69, 70, 71, 72, 73, 74, 75, 76, 77, 78, 79, 80, 81, 82, 83, 84, 85, 86, 87, 88, 89, 90, 91, 92, 93, 94, 95, 96, 97, 98, 99, 100, 101, 102, 103, 104, 838, 839, 840, 841, 842, 799, 800, 801, 802, 803, 804, 805, 806, 807, 843, 844, 845, 846, 847, 848, 849, 850, 851, 852, 853, 854, 855, 856, 857, 858, 859, 860, 861, 862, 863, 864, 865, 866, 867, 868, 869, 870, 871, 872, 873, 874, 875] rfl (by decide +kernel)
set_option maxRecDepth 20000 in
theorem gL_law_X7_init : GoodIn wsL_law (wsX7_init) := ggL_law_X7_init
set_option maxRecDepth 20000 in
theorem ggL_law_X8_init : GoodIn wsL_law wsX8_init := goodIn_r _ [107, 108, 11, 12, 109, 37, 110, 111, 64, 112, 46, 113, 114, 115, 116, 117, 118, 119, 120, 121, 122, 123, 124, 125, 126, 808, 809, 810, 811, 812, 813, 814, 815, 816, 817, 818, 819, 820, 821, 822, 823, 824, 825, 826, 827, 828, 829, 830, 831, 832, 833, 834, 835, 836, 837] rfl (by decide +kernel)
set_option maxRecDepth 20000 in
theorem gL_law_X8_init : GoodIn wsL_law (wsX8_init) := ggL_law_X8_init
set_option maxRecDepth 20000 in
theorem ggL_law_X7_feed : GoodIn wsL_law wsX7_feed := goodIn_r _ [130, 39, 38, 799, 800, 801, 802, 803, 804, 805, 806, 807] rfl (by decide +kernel)
set_option maxRecDepth 20000 in
theorem gL_law_X7_feed : GoodIn wsL_law (wsV RL 15 RX7 yX7_feed wsX7_feed) := goodIn_app (goodIn_of _ (by decide +kernel)) ggL_law_X7_feed
set_option maxRecDepth 20000 in
theorem ggL_law_X8_feed : GoodIn wsL_law wsX8_feed := goodIn_r _ [134, 135, 136, 120, 137, 138, 5, 139, 808, 809, 810, 811, 812, 813, 814, 815, 816, 817, 818, 819, 820, 821, 822, 823, 824, 825, 826, 827, 828, 829, 830, 831, 832, 833, 834, 835, 836, 837] rfl (by decide +kernel)
set_option maxRecDepth 20000 in
theorem gL_law_X8_feed : GoodIn wsL_law (wsV RL 19 RX8 yX8_feed wsX8_feed) := goodIn_app (goodIn_of _ (by decide +kernel)) ggL_law_X8_feed
set_option maxRecDepth 20000 in
theorem ggL_law_X7_put : GoodIn wsL_law wsX7_put := goodIn_r _ [143, 40, 24, 39, 38, 144, 145, 2, 146, 147, 148, 149, 23, 150, 151, 152, 153, 154, 71, 72, 155, 156, 157, 158, 63, 159, 160, 161, 162, 74, 62, 76, 163, 164, 165, 166, 73, 167, 168, 169, 170, 171, 172, 173, 174, 175, 176, 177, 178, 179, 180, 65, 181, 182, 183, 184, 185, 186, 187, 188, 189, 190, 191, 192, 193, 194, 195, 196, 197, 198, 199, 200, 201, 202, 203, 204, 205, 206, 70, 67, 68, 69, 207, 208, 209, 210, 211, 212, 213, 214, 215, 216, 19, 217, 54, 56, 55, 218, 219, 220, 221, 66, 799, 800, 801, 802, 803, 804, 805, 806, 807, 846, 847, 848, 849, 850, 851, 852, 853, 854, 855, 856, 857, 858, 859, 843, 844, 845] rfl (by decide +kernel)
set_option maxRecDepth 20000 in
theorem gL_law_X7_put : GoodIn wsL_law (wsV RL 20 RX7 yX7_put wsX7_put) := goodIn_app (goodIn_of _ (by decide +kernel)) ggL_law_X7_put
set_option maxRecDepth 20000 in
theorem ggL_law_X8_put : GoodIn wsL_law wsX8_put := goodIn_r _ [225, 135, 226, 136, 123, 120, 227, 114, 137, 138, 5, 139, 228, 229, 230, 231, 232, 233, 234, 235, 236, 237, 113, 238, 239, 240, 241, 242, 121, 111, 115, 116, 122, 243, 244, 245, 246, 247, 248, 249, 250, 251, 252, 253, 254, 255, 256, 257, 258, 259, 260, 261, 262, 263, 117, 119, 118, 808, 809, 810, 811, 812, 813, 814, 815, 816, 817, 818, 819, 820, 821, 822, 823, 824, 825, 826, 827, 828, 829, 830, 831, 832, 833, 834, 835, 836, 837] rfl (by decide +kernel)
set_option maxRecDepth 20000 in
theorem gL_law_X8_put : GoodIn wsL_law (wsV RL 24 RX8 yX8_put wsX8_put) := goodIn_app (goodIn_of _ (by decide +kernel)) ggL_law_X8_put
set_option maxRecDepth 20000 in
theorem ggL_law_X7_remove : GoodIn wsL_law wsX7_remove := goodIn_r _ [267, 40, 20, 24, 38, 268, 269, 270, 19, 271, 54, 145, 2, 146, 175, 176, 147, 148, 149, 23, 150, 151, 152, 153, 154, 71, 72, 155, 156, 157, 158, 63, 159, 160, 161, 162, 74, 62, 76, 163, 164, 165, 166, 73, 167, 168, 169, 170, 171, 172, 173, 174, 177, 178, 179, 180, 65, 181, 182, 183, 184, 185, 186, 187, 188, 189, 190, 191, 192, 193, 194, 195, 196, 197, 198, 199, 200, 201, 202, 203, 204, 205, 206, 70, 67, 68, 69, 207, 208, 209, 210, 211, 212, 213, 214, 215, 216, 217, 56, 55, 218, 219, 220, 221, 66, 799, 800, 801, 802, 803, 804, 805, 806, 807, 846, 847, 848, 849, 850, 851, 852, 853, 854, 855, 856, 857, 858, 859, 843, 844, 845] rfl (by decide +kernel)
set_option maxRecDepth 20000 in
theorem gL_law_X7_remove : GoodIn wsL_law (wsV RL 25 RX7 yX7_remove wsX7_remove) := goodIn_app (goodIn_of _ (by decide +kernel)) ggL_law_X7_remove
set_option maxRecDepth 20000 in
theorem ggL_law_X8_remove : GoodIn wsL_law wsX8_remove := goodIn_r _ [275, 135, 226, 227, 114, 276, 277, 278, 5, 279, 115, 137, 138, 139, 228, 229, 230, 231, 232, 233, 234, 235, 236, 237, 113, 238, 239, 240, 241, 242, 123, 121, 111, 116, 122, 243, 244, 245, 246, 247, 248, 249, 250, 251, 252, 253, 254, 255, 256, 257, 258, 259, 260, 261, 262, 263, 117, 119, 118, 808, 809, 810, 811, 812, 813, 814, 815, 816, 817, 818, 819, 820, 821, 822, 823, 824, 825, 826, 827, 828, 829, 830, 831, 832, 833, 834, 835, 836, 837] rfl (by decide +kernel)
set_option maxRecDepth 20000 in
theorem gL_law_X8_remove : GoodIn wsL_law (wsV RL 28 RX8 yX8_remove wsX8_remove) := goodIn_app (goodIn_of _ (by decide +kernel)) ggL_law_X8_remove
set_option maxRecDepth 20000 in
theorem ggL_law_X7_size : GoodIn wsL_law wsX7_size := goodIn_r _ [283, 40, 20, 24, 268, 269, 270, 19, 271, 54, 145, 2, 146, 175, 176, 284, 285, 286, 23, 287, 62, 76, 288, 289, 290, 291, 55, 292, 293, 183, 294, 185, 186, 187, 799, 800, 801, 802, 803, 804, 805, 806, 807, 843, 844, 845, 846, 847, 848, 849, 850, 851, 852, 853, 854, 855, 856, 857, 858, 859] rfl (by decide +kernel)
set_option maxRecDepth 20000 in
theorem gL_law_X7_size : GoodIn wsL_law (wsV RL 29 RX7 yX7_size wsX7_size) := goodIn_app (goodIn_of _ (by decide +kernel)) ggL_law_X7_size
set_option maxRecDepth 20000 in
theorem ggL_law_X8_size : GoodIn wsL_law wsX8_size := goodIn_r _ [298, 135, 226, 276, 277, 278, 5, 279, 115, 137, 138, 139, 299, 300, 301, 302, 111, 116, 248, 249, 250, 808, 809, 810, 811, 812, 813, 814, 815, 816, 817, 818, 819, 820, 821, 822, 823, 824, 825, 826, 827, 828, 829, 830, 831, 832, 833, 834, 835, 836, 837] rfl (by decide +kernel)
set_option maxRecDepth 20000 in
theorem gL_law_X8_size : GoodIn wsL_law (wsV RL 32 RX8 yX8_size wsX8_size) := goodIn_app (goodIn_of _ (by decide +kernel)) ggL_law_X8_size
set_option maxRecDepth 20000 in
theorem ggL_law_X7_value : GoodIn wsL_law wsX7_value := goodIn_r _ [306, 40, 20, 24, 268, 269, 270, 19, 271, 54, 145, 2, 146, 175, 176, 284, 285, 286, 23, 287, 62, 76, 288, 289, 290, 291, 55, 292, 293, 183, 294, 185, 186, 187, 307, 308, 799, 800, 801, 802, 803, 804, 805, 806, 807, 846, 847, 848, 849, 850, 851, 852, 853, 854, 855, 856, 857, 858, 859, 843, 844, 845] rfl (by decide +kernel)
set_option maxRecDepth 20000 in
theorem gL_law_X7_value : GoodIn wsL_law (wsV RL 33 RX7 yX7_value wsX7_value) := goodIn_app (goodIn_of _ (by decide +kernel)) ggL_law_X7_value
set_option maxRecDepth 20000 in
theorem ggL_law_X8_value : GoodIn wsL_law wsX8_value := goodIn_r _ [312, 135, 226, 111, 115, 116, 276, 277, 278, 5, 279, 137, 138, 139, 299, 300, 301, 302, 248, 249, 250, 808, 809, 810, 811, 812, 813, 814, 815, 816, 817, 818, 819, 820, 821, 822, 823, 824, 825, 826, 827, 828, 829, 830, 831, 832, 833, 834, 835, 836, 837] rfl (by decide +kernel)
set_option maxRecDepth 20000 in
theorem gL_law_X8_value : GoodIn wsL_law (wsV RL 37 RX8 yX8_value wsX8_value) := goodIn_app (goodIn_of _ (by decide +kernel)) ggL_law_X8_value
set_option maxRecDepth 20000 in
theorem ggL_law_X7_sync : GoodIn wsL_law wsX7_sync := goodIn_r _ [316, 40, 24, 16, 317, 318, 319, 23, 320, 70, 67, 321, 322, 323, 324, 68, 69, 325, 326, 327, 328, 329, 330, 331, 332, 62, 333, 334, 335, 15, 336, 47, 49, 45, 50, 48, 337, 338, 208, 183, 209, 210, 211, 212, 213, 185, 186, 187, 799, 800, 801, 802, 803, 804, 805, 806, 807, 846, 847, 848, 849, 850, 851, 852, 853, 854, 855, 856, 857, 858, 859, 838, 839, 840, 841, 842] rfl (by decide +kernel)
set_option maxRecDepth 20000 in
theorem gL_law_X7_sync : GoodIn wsL_law (wsV RL 38 RX7 yX7_sync wsX7_sync) := goodIn_app (goodIn_of _ (by decide +kernel)) ggL_law_X7_sync
set_option maxRecDepth 20000 in
theorem ggL_law_X8_sync : GoodIn wsL_law wsX8_sync := goodIn_r _ [342, 135, 226, 343, 344, 345, 5, 346, 263, 119, 117, 111, 118, 248, 249, 250, 347, 348, 349, 350, 351, 352, 353, 110, 112, 808, 809, 810, 811, 812, 813, 814, 815, 816, 817, 818, 819, 820, 821, 822, 823, 824, 825, 826, 827, 828, 829, 830, 831, 832, 833, 834, 835, 836, 837] rfl (by decide +kernel)
set_option maxRecDepth 20000 in
theorem gL_law_X8_sync : GoodIn wsL_law (wsV RL 42 RX8 yX8_sync wsX8_sync) := goodIn_app (goodIn_of _ (by decide +kernel)) ggL_law_X8_sync
set_option maxRecDepth 20000 in
theorem ggL_law_X7_checkpoint : GoodIn wsL_law wsX7_checkpoint := goodIn_r _ [357, 40, 24, 16, 32, 317, 318, 319, 23, 320, 70, 67, 321, 322, 323, 324, 68, 69, 325, 326, 327, 328, 329, 330, 331, 332, 62, 333, 334, 335, 15, 336, 47, 49, 45, 50, 48, 337, 338, 208, 183, 209, 210, 211, 212, 213, 185, 186, 187, 358, 359, 360, 31, 361, 94, 93, 91, 92, 362, 363, 364, 365, 95, 96, 366, 367, 368, 369, 370, 189, 190, 371, 269, 270, 19, 271, 54, 145, 2, 146, 175, 176, 372, 373, 374, 375, 376, 377, 378, 379, 55, 380, 381, 382, 383, 63, 384, 192, 193, 194, 195, 196, 197, 198, 199, 200, 201, 202, 385, 386, 387, 388, 389, 799, 800, 801, 802, 803, 804, 805, 806, 807, 866, 867, 868, 869, 870, 871, 846, 847, 848, 849, 850, 851, 852, 853, 854, 855, 856, 857, 858, 859, 838, 839, 840, 841, 842, 843, 844, 845] rfl (by decide +kernel)
set_option maxRecDepth 20000 in
theorem gL_law_X7_checkpoint : GoodIn wsL_law (wsV RL 43 RX7 yX7_checkpoint wsX7_checkpoint) := goodIn_app (goodIn_of _ (by decide +kernel)) ggL_law_X7_checkpoint
set_option maxRecDepth 20000 in
theorem ggL_law_X8_checkpoint : GoodIn wsL_law wsX8_checkpoint := goodIn_r _ [393, 135, 226, 242, 394, 114, 227, 232, 233, 247, 115, 116, 113, 121, 126, 343, 344, 345, 5, 346, 263, 119, 117, 111, 118, 248, 249, 250, 347, 348, 349, 350, 351, 352, 353, 110, 112, 251, 252, 253, 254, 395, 396, 397, 398, 255, 256, 257, 258, 808, 809, 810, 811, 812, 813, 814, 815, 816, 817, 818, 819, 820, 821, 822, 823, 824, 825, 826, 827, 828, 829, 830, 831, 832, 833, 834, 835, 836, 837] rfl (by decide +kernel)
set_option maxRecDepth 20000 in
theorem gL_law_X8_checkpoint : GoodIn wsL_law (wsV RL 46 RX8 yX8_checkpoint wsX8_checkpoint) := goodIn_app (goodIn_of _ (by decide +kernel)) ggL_law_X8_checkpoint
set_option maxRecDepth 20000 in
theorem ggL_law_X7_clean : GoodIn wsL_law wsX7_clean := goodIn_r _ [402, 40, 28, 403, 404, 405, 27, 406, 85, 84, 83, 81, 407, 408, 409, 410, 411, 412, 413, 414, 415, 416, 417, 418, 82, 86, 419, 420, 368, 421, 422, 269, 270, 19, 271, 54, 145, 2, 146, 175, 176, 423, 373, 374, 375, 424, 285, 286, 23, 287, 62, 76, 288, 289, 290, 291, 55, 292, 293, 183, 294, 185, 186, 187, 425, 426, 427, 428, 429, 430, 431, 432, 71, 63, 433, 434, 435, 436, 437, 438, 439, 440, 441, 442, 443, 444, 65, 66, 445, 446, 447, 448, 449, 450, 451, 452, 453, 454, 455, 456, 457, 458, 459, 460, 461, 462, 463, 464, 465, 466, 467, 468, 469, 156, 157, 158, 470, 471, 472, 473, 474, 475, 160, 161, 162, 74, 72, 151, 152, 153, 154, 163, 164, 165, 166, 73, 167, 168, 169, 170, 171, 172, 173, 174, 177, 178, 179, 180, 181, 182, 184, 188, 189, 190, 191, 192, 193, 194, 195, 196, 197, 198, 199, 200, 201, 202, 203, 204, 205, 206, 70, 67, 68, 69, 207, 208, 209, 210, 211, 212, 213, 214, 215, 216, 217, 56, 218, 219, 220, 221, 476, 477, 478, 479, 799, 800, 801, 802, 803, 804, 805, 806, 807, 860, 861, 862, 863, 864, 865, 843, 844, 845, 846, 847, 848, 849, 850, 851, 852, 853, 854, 855, 856, 857, 858, 859] rfl (by decide +kernel)
set_option maxRecDepth 20000 in
theorem gL_law_X7_clean : GoodIn wsL_law (wsV RL 47 RX7 yX7_clean wsX7_clean) := goodIn_app (goodIn_of _ (by decide +kernel)) ggL_law_X7_clean
set_option maxRecDepth 20000 in
theorem ggL_law_X8_clean : GoodIn wsL_law wsX8_clean := goodIn_r _ [483, 135, 226, 124, 115, 125, 232, 233, 116, 123, 111, 113, 137, 138, 5, 139, 484, 485, 486, 487, 488, 227, 122, 489, 490, 491, 492, 299, 300, 301, 302, 248, 249, 250, 493, 494, 495, 496, 497, 498, 499, 500, 501, 502, 503, 234, 235, 236, 237, 238, 239, 240, 241, 242, 114, 121, 228, 229, 230, 231, 243, 244, 245, 246, 247, 251, 252, 253, 254, 255, 256, 257, 258, 259, 260, 261, 262, 263, 117, 119, 118, 808, 809, 810, 811, 812, 813, 814, 815, 816, 817, 818, 819, 820, 821, 822, 823, 824, 825, 826, 827, 828, 829, 830, 831, 832, 833, 834, 835, 836, 837] rfl (by decide +kernel)
set_option maxRecDepth 20000 in
theorem gL_law_X8_clean : GoodIn wsL_law (wsV RL 50 RX8 yX8_clean wsX8_clean) := goodIn_app (goodIn_of _ (by decide +kernel)) ggL_law_X8_clean
set_option maxRecDepth 20000 in
theorem ggL_law_X7_tick : GoodIn wsL_law wsX7_tick := goodIn_r _ [507, 40, 508, 24, 799, 800, 801, 802, 803, 804, 805, 806, 807, 846, 847, 848, 849, 850, 851, 852, 853, 854, 855, 856, 857, 858, 859] rfl (by decide +kernel)
set_option maxRecDepth 20000 in
theorem gL_law_X7_tick : GoodIn wsL_law (wsV RL 51 RX7 yX7_tick wsX7_tick) := goodIn_app (goodIn_of _ (by decide +kernel)) ggL_law_X7_tick
set_option maxRecDepth 20000 in
theorem ggL_law_X8_tick : GoodIn wsL_law wsX8_tick := goodIn_r _ [512, 135, 226, 513, 227, 137, 138, 5, 139, 808, 809, 810, 811, 812, 813, 814, 815, 816, 817, 818, 819, 820, 821, 822, 823, 824, 825, 826, 827, 828, 829, 830, 831, 832, 833, 834, 835, 836, 837] rfl (by decide +kernel)
set_option maxRecDepth 20000 in
theorem gL_law_X8_tick : GoodIn wsL_law (wsV RL 54 RX8 yX8_tick wsX8_tick) := goodIn_app (goodIn_of _ (by decide +kernel)) ggL_law_X8_tick
set_option maxRecDepth 20000 in
theorem ggL_law_X7_cut : GoodIn wsL_law wsX7_cut := goodIn_r _ [517, 40, 16, 518, 519, 520, 15, 521, 49, 50, 799, 800, 801, 802, 803, 804, 805, 806, 807, 838, 839, 840, 841, 842] rfl (by decide +kernel)
set_option maxRecDepth 20000 in
theorem gL_law_X7_cut : GoodIn wsL_law (wsV RL 55 RX7 yX7_cut wsX7_cut) := goodIn_app (goodIn_of _ (by decide +kernel)) ggL_law_X7_cut
set_option maxRecDepth 20000 in
theorem ggL_law_X8_cut : GoodIn wsL_law wsX8_cut := goodIn_r _ [525, 135, 226, 351, 353, 137, 138, 5, 139, 808, 809, 810, 811, 812, 813, 814, 815, 816, 817, 818, 819, 820, 821, 822, 823, 824, 825, 826, 827, 828, 829, 830, 831, 832, 833, 834, 835, 836, 837] rfl (by decide +kernel)
set_option maxRecDepth 20000 in
theorem gL_law_X8_cut : GoodIn wsL_law (wsV RL 58 RX8 yX8_cut wsX8_cut) := goodIn_app (goodIn_of _ (by decide +kernel)) ggL_law_X8_cut
set_option maxRecDepth 20000 in
theorem ggL_law_X7_start : GoodIn wsL_law wsX7_start := goodIn_r _ [529, 16, 40, 36, 518, 519, 520, 15, 521, 49, 50, 530, 531, 532, 35, 533, 102, 104, 103, 534, 535, 536, 23, 537, 63, 70, 71, 72, 73, 74, 75, 538, 420, 368, 421, 539, 540, 541, 31, 542, 92, 93, 543, 544, 545, 19, 546, 54, 55, 56, 547, 548, 549, 550, 551, 552, 553, 554, 555, 94, 556, 557, 558, 559, 560, 293, 183, 294, 185, 186, 187, 561, 562, 563, 564, 45, 565, 566, 567, 195, 196, 197, 198, 199, 200, 201, 568, 569, 570, 571, 47, 572, 573, 327, 574, 337, 326, 328, 575, 576, 577, 578, 579, 580, 581, 582, 175, 2, 176, 583, 584, 585, 586, 145, 146, 587, 588, 589, 590, 591, 592, 593, 594, 95, 595, 596, 597, 598, 599, 600, 172, 173, 174, 601, 602, 603, 604, 605, 606, 607, 608, 609, 610, 611, 612, 613, 614, 615, 616, 617, 618, 619, 620, 621, 622, 623, 624, 625, 101, 626, 627, 628, 629, 630, 631, 632, 633, 634, 635, 636, 637, 638, 639, 640, 381, 382, 383, 641, 642, 643, 644, 645, 215, 216, 217, 646, 647, 648, 649, 650, 651, 652, 653, 654, 655, 656, 657, 658, 659, 660, 661, 662, 663, 664, 665, 666, 667, 668, 669, 670, 671, 672, 673, 674, 675, 676, 677, 678, 679, 62, 680, 207, 208, 209, 210, 211, 212, 213, 181, 182, 184, 681, 178, 179, 180, 65, 682, 683, 684, 685, 686, 219, 220, 221, 66, 799, 800, 801, 802, 803, 804, 805, 806, 807, 838, 839, 840, 841, 842, 872, 873, 874, 875, 846, 847, 848, 849, 850, 851, 852, 853, 854, 855, 856, 857, 858, 859, 866, 867, 868, 869, 870, 871, 843, 844, 845] rfl (by decide +kernel)
set_option maxRecDepth 20000 in
theorem gL_law_X7_start : GoodIn wsL_law (wsV RL 59 RX7 yX7_start wsX7_start) := goodIn_app (goodIn_of _ (by decide +kernel)) ggL_law_X7_start
set_option maxRecDepth 20000 in
theorem ggL_law_X8_start : GoodIn wsL_law wsX8_start := goodIn_r _ [690, 135, 226, 351, 263, 109, 111, 110, 115, 113, 232, 233, 247, 114, 227, 394, 126, 116, 122, 691, 692, 693, 5, 694, 497, 498, 499, 695, 696, 697, 698, 112, 255, 256, 257, 258, 137, 138, 139, 699, 700, 701, 702, 703, 704, 705, 706, 707, 708, 709, 710, 248, 249, 250, 711, 712, 713, 714, 715, 716, 717, 718, 719, 720, 721, 722, 808, 809, 810, 811, 812, 813, 814, 815, 816, 817, 818, 819, 820, 821, 822, 823, 824, 825, 826, 827, 828, 829, 830, 831, 832, 833, 834, 835, 836, 837] rfl (by decide +kernel)
set_option maxRecDepth 20000 in
theorem gL_law_X8_start : GoodIn wsL_law (wsV RL 62 RX8 yX8_start wsX8_start) := goodIn_app (goodIn_of _ (by decide +kernel)) ggL_law_X8_start
set_option maxRecDepth 20000 in
theorem ggL_law_X7_disk : GoodIn wsL_law wsX7_disk := goodIn_r _ [726, 16, 727, 728, 2, 729, 308, 293, 183, 294, 185, 186, 187, 799, 800, 801, 802, 803, 804, 805, 806, 807, 838, 839, 840, 841, 842] rfl (by decide +kernel)
set_option maxRecDepth 20000 in
theorem gL_law_X7_disk : GoodIn wsL_law (wsV RL 63 RX7 yX7_disk wsX7_disk) := goodIn_app (goodIn_of _ (by decide +kernel)) ggL_law_X7_disk
set_option maxRecDepth 20000 in
theorem ggL_law_X8_disk : GoodIn wsL_law wsX8_disk := goodIn_r _ [733, 135, 110, 137, 138, 5, 139, 248, 249, 250, 808, 809, 810, 811, 812, 813, 814, 815, 816, 817, 818, 819, 820, 821, 822, 823, 824, 825, 826, 827, 828, 829, 830, 831, 832, 833, 834, 835, 836, 837] rfl (by decide +kernel)
set_option maxRecDepth 20000 in
theorem gL_law_X8_disk : GoodIn wsL_law (wsV RL 66 RX8 yX8_disk wsX8_disk) := goodIn_app (goodIn_of _ (by decide +kernel)) ggL_law_X8_disk
set_option maxRecDepth 20000 in
theorem ggL_law_X7_poke : GoodIn wsL_law wsX7_poke := goodIn_r _ [737, 16, 727, 728, 2, 729, 738, 739, 740, 15, 741, 45, 566, 293, 183, 294, 185, 186, 187, 742, 189, 190, 799, 800, 801, 802, 803, 804, 805, 806, 807, 838, 839, 840, 841, 842] rfl (by decide +kernel)
set_option maxRecDepth 20000 in
theorem gL_law_X7_poke : GoodIn wsL_law (wsV RL 67 RX7 yX7_poke wsX7_poke) := goodIn_app (goodIn_of _ (by decide +kernel)) ggL_law_X7_poke
set_option maxRecDepth 20000 in
theorem ggL_law_X8_poke : GoodIn wsL_law wsX8_poke := goodIn_r _ [746, 135, 110, 137, 138, 5, 139, 248, 249, 250, 808, 809, 810, 811, 812, 813, 814, 815, 816, 817, 818, 819, 820, 821, 822, 823, 824, 825, 826, 827, 828, 829, 830, 831, 832, 833, 834, 835, 836, 837] rfl (by decide +kernel)
set_option maxRecDepth 20000 in
theorem gL_law_X8_poke : GoodIn wsL_law (wsV RL 71 RX8 yX8_poke wsX8_poke) := goodIn_app (goodIn_of _ (by decide +kernel)) ggL_law_X8_poke
set_option maxRecDepth 20000 in
theorem ggL_law_X7_segment : GoodIn wsL_law wsX7_segment := goodIn_r _ [750, 40, 24, 751, 175, 2, 176, 752, 430, 431, 23, 432, 71, 63, 753, 381, 382, 383, 754, 755, 756, 757, 76, 758, 269, 270, 19, 271, 54, 145, 146, 759, 373, 374, 375, 760, 285, 286, 287, 62, 288, 289, 290, 291, 55, 292, 293, 183, 294, 185, 186, 187, 761, 442, 443, 444, 65, 66, 762, 763, 764, 765, 799, 800, 801, 802, 803, 804, 805, 806, 807, 846, 847, 848, 849, 850, 851, 852, 853, 854, 855, 856, 857, 858, 859, 843, 844, 845] rfl (by decide +kernel)
set_option maxRecDepth 20000 in
theorem gL_law_X7_segment : GoodIn wsL_law (wsV RL 72 RX7 yX7_segment wsX7_segment) := goodIn_app (goodIn_of _ (by decide +kernel)) ggL_law_X7_segment
set_option maxRecDepth 20000 in
theorem ggL_law_X8_segment : GoodIn wsL_law wsX8_segment := goodIn_r _ [769, 135, 226, 113, 122, 111, 137, 138, 5, 139, 489, 490, 491, 492, 115, 299, 300, 301, 302, 116, 248, 249, 250, 497, 498, 499, 808, 809, 810, 811, 812, 813, 814, 815, 816, 817, 818, 819, 820, 821, 822, 823, 824, 825, 826, 827, 828, 829, 830, 831, 832, 833, 834, 835, 836, 837] rfl (by decide +kernel)
set_option maxRecDepth 20000 in
theorem gL_law_X8_segment : GoodIn wsL_law (wsV RL 75 RX8 yX8_segment wsX8_segment) := goodIn_app (goodIn_of _ (by decide +kernel)) ggL_law_X8_segment
set_option maxRecDepth 20000 in
theorem ggL_law_X7_where : GoodIn wsL_law wsX7_where := goodIn_r _ [773, 40, 20, 24, 268, 269, 270, 19, 271, 54, 145, 2, 146, 175, 176, 774, 373, 374, 375, 775, 377, 378, 379, 55, 776, 462, 463, 23, 464, 62, 76, 288, 289, 290, 291, 292, 293, 183, 294, 185, 186, 187, 777, 458, 459, 460, 799, 800, 801, 802, 803, 804, 805, 806, 807, 843, 844, 845, 846, 847, 848, 849, 850, 851, 852, 853, 854, 855, 856, 857, 858, 859] rfl (by decide +kernel)
set_option maxRecDepth 20000 in
theorem gL_law_X7_where : GoodIn wsL_law (wsV RL 76 RX7 yX7_where wsX7_where) := goodIn_app (goodIn_of _ (by decide +kernel)) ggL_law_X7_where
set_option maxRecDepth 20000 in
theorem ggL_law_X8_where : GoodIn wsL_law wsX8_where := goodIn_r _ [781, 135, 226, 115, 116, 276, 277, 278, 5, 279, 137, 138, 139, 500, 501, 502, 503, 111, 248, 249, 250, 497, 498, 499, 493, 494, 495, 496, 808, 809, 810, 811, 812, 813, 814, 815, 816, 817, 818, 819, 820, 821, 822, 823, 824, 825, 826, 827, 828, 829, 830, 831, 832, 833, 834, 835, 836, 837] rfl (by decide +kernel)
set_option maxRecDepth 20000 in
theorem gL_law_X8_where : GoodIn wsL_law (wsV RL 79 RX8 yX8_where wsX8_where) := goodIn_app (goodIn_of _ (by decide +kernel)) ggL_law_X8_where
set_option maxRecDepth 20000 in
theorem ggL_law_X7_told : GoodIn wsL_law wsX7_told := goodIn_r _ [785, 40, 16, 786, 787, 788, 2, 789, 24, 20, 32, 790, 156, 157, 23, 158, 63, 791, 792, 793, 794, 70, 69, 67, 68, 799, 800, 801, 802, 803, 804, 805, 806, 807, 838, 839, 840, 841, 842, 846, 847, 848, 849, 850, 851, 852, 853, 854, 855, 856, 857, 858, 859, 843, 844, 845, 866, 867, 868, 869, 870, 871] rfl (by decide +kernel)
set_option maxRecDepth 20000 in
theorem gL_law_X7_told : GoodIn wsL_law (wsV RL 80 RX7 yX7_told wsX7_told) := goodIn_app (goodIn_of _ (by decide +kernel)) ggL_law_X7_told
set_option maxRecDepth 20000 in
theorem ggL_law_X8_told : GoodIn wsL_law wsX8_told := goodIn_r _ [798, 135, 352, 226, 114, 227, 232, 233, 263, 119, 118, 394, 137, 138, 5, 139, 234, 235, 236, 237, 113, 395, 396, 397, 398, 115, 808, 809, 810, 811, 812, 813, 814, 815, 816, 817, 818, 819, 820, 821, 822, 823, 824, 825, 826, 827, 828, 829, 830, 831, 832, 833, 834, 835, 836, 837] rfl (by decide +kernel)
set_option maxRecDepth 20000 in
theorem gL_law_X8_told : GoodIn wsL_law (wsV RL 83 RX8 yX8_told wsX8_told) := goodIn_app (goodIn_of _ (by decide +kernel)) ggL_law_X8_told
end
section
theorem inL_law_X7 : ∀ w ∈ wsX70, w ∈ wsL_law := inlX7
theorem inL_law_X8 : ∀ w ∈ wsX80, w ∈ wsL_law := inlX8
theorem inX0_bestLeft_X0 : ∀ w ∈ wsX00, w ∈ wsX0_bestLeft := fun _ h => List.mem_cons_of_mem _ (List.mem_append_left _ (List.mem_append_right _ h))
theorem inX0_countWanted_X0 : ∀ w ∈ wsX00, w ∈ wsX0_countWanted := fun _ h => List.mem_cons_of_mem _ (List.mem_append_left _ (List.mem_append_left _ (List.mem_append_right _ h)))
theorem inX0_countWanted_X3 : ∀ w ∈ wsX30, w ∈ wsX0_countWanted := fun _ h => List.mem_cons_of_mem _ (List.mem_append_left _ (List.mem_append_right _ h))
theorem inX0_forgetChosen_X0 : ∀ w ∈ wsX00, w ∈ wsX0_forgetChosen := fun _ h => List.mem_cons_of_mem _ (List.mem_append_right _ h)
theorem inX0_gatherAged_X0 : ∀ w ∈ wsX00, w ∈ wsX0_gatherAged := fun _ h => List.mem_cons_of_mem _ (List.mem_append_left _ (List.mem_append_left _ (List.mem_append_right _ h)))
theorem inX0_init_X0 : ∀ w ∈ wsX00, w ∈ wsX0_init := fun _ h => List.mem_cons_of_mem _ (List.mem_append_right _ h)
theorem inX0_spend_X0 : ∀ w ∈ wsX00, w ∈ wsX0_spend := fun _ h => List.mem_cons_of_mem _ (List.mem_append_left _ (List.mem_append_left _ (List.mem_append_right _ h)))
theorem inX0_weighLive_X0 : ∀ w ∈ wsX00, w ∈ wsX0_weighLive := fun _ h => List.mem_cons_of_mem _ (List.mem_append_left _ (List.mem_append_left _ (List.mem_append_right _ h)))
theorem inX1_cutAt_X1 : ∀ w ∈ wsX10, w ∈ wsX1_cutAt := fun _ h => List.mem_cons_of_mem _ (List.mem_append_right _ h)
theorem inX1_flip_X1 : ∀ w ∈ wsX10, w ∈ wsX1_flip := fun _ h => List.mem_cons_of_mem _ (List.mem_append_right _ h)
theorem inX1_init_X1 : ∀ w ∈ wsX10, w ∈ wsX1_init := fun _ h => List.mem_cons_of_mem _ (List.mem_append_right _ h)
theorem inX1_write_X1 : ∀ w ∈ wsX10, w ∈ wsX1_write := fun _ h => List.mem_cons_of_mem _ (List.mem_append_right _ h)
theorem inX2_clear_X2 : ∀ w ∈ wsX20, w ∈ wsX2_clear := fun _ h => List.mem_cons_of_mem _ (List.mem_append_right _ h)
theorem inX2_follow_X2 : ∀ w ∈ wsX20, w ∈ wsX2_follow := fun _ h => List.mem_cons_of_mem _ (List.mem_append_right _ h)
theorem inX2_has_X2 : ∀ w ∈ wsX20, w ∈ wsX2_has := fun _ h => List.mem_cons_of_mem _ (List.mem_append_right _ h)
theorem inX2_init_X2 : ∀ w ∈ wsX20, w ∈ wsX2_init := fun _ h => List.mem_cons_of_mem _ (List.mem_append_right _ h)
theorem inX3_append_X3 : ∀ w ∈ wsX30, w ∈ wsX3_append := fun _ h => List.mem_cons_of_mem _ (List.mem_append_left _ (List.mem_append_right _ h))
theorem inX3_countFree_X3 : ∀ w ∈ wsX30, w ∈ wsX3_countFree := fun _ h => List.mem_cons_of_mem _ (List.mem_append_right _ h)
theorem inX3_countFreshOctets_X3 : ∀ w ∈ wsX30, w ∈ wsX3_countFreshOctets := fun _ h => List.mem_cons_of_mem _ (List.mem_append_right _ h)
theorem inX3_fits_X3 : ∀ w ∈ wsX30, w ∈ wsX3_fits := fun _ h => List.mem_cons_of_mem _ (List.mem_append_right _ h)
theorem inX3_forgetTimes_X3 : ∀ w ∈ wsX30, w ∈ wsX3_forgetTimes := fun _ h => List.mem_cons_of_mem _ (List.mem_append_right _ h)
theorem inX3_freeSpent_X3 : ∀ w ∈ wsX30, w ∈ wsX3_freeSpent := fun _ h => List.mem_cons_of_mem _ (List.mem_append_right _ h)
theorem inX3_init_X3 : ∀ w ∈ wsX30, w ∈ wsX3_init := fun _ h => List.mem_cons_of_mem _ (List.mem_append_right _ h)
theorem inX3_isUsed_X3 : ∀ w ∈ wsX30, w ∈ wsX3_isUsed := fun _ h => List.mem_cons_of_mem _ (List.mem_append_right _ h)
theorem inX3_leastFree_X3 : ∀ w ∈ wsX30, w ∈ wsX3_leastFree := fun _ h => List.mem_cons_of_mem _ (List.mem_append_right _ h)
theorem inX3_loadMemory_X3 : ∀ w ∈ wsX30, w ∈ wsX3_loadMemory := fun _ h => List.mem_cons_of_mem _ (List.mem_append_right _ h)
theorem inX3_noteFresh_X3 : ∀ w ∈ wsX30, w ∈ wsX3_noteFresh := fun _ h => List.mem_cons_of_mem _ (List.mem_append_right _ h)
theorem inX3_noteTime_X3 : ∀ w ∈ wsX30, w ∈ wsX3_noteTime := fun _ h => List.mem_cons_of_mem _ (List.mem_append_right _ h)
theorem inX3_openNext_X3 : ∀ w ∈ wsX30, w ∈ wsX3_openNext := fun _ h => List.mem_cons_of_mem _ (List.mem_append_right _ h)
theorem inX3_setAsAtFirst_X3 : ∀ w ∈ wsX30, w ∈ wsX3_setAsAtFirst := fun _ h => List.mem_cons_of_mem _ (List.mem_append_right _ h)
theorem inX3_stateOf_X3 : ∀ w ∈ wsX30, w ∈ wsX3_stateOf := fun _ h => List.mem_cons_of_mem _ (List.mem_append_right _ h)
theorem inX3_use_X3 : ∀ w ∈ wsX30, w ∈ wsX3_use := fun _ h => List.mem_cons_of_mem _ (List.mem_append_right _ h)
theorem inX3_writeFresh_X3 : ∀ w ∈ wsX30, w ∈ wsX3_writeFresh := fun _ h => List.mem_cons_of_mem _ (List.mem_append_left _ (List.mem_append_right _ h))
theorem inX5_fillMemory_X5 : ∀ w ∈ wsX50, w ∈ wsX5_fillMemory := fun _ h => List.mem_cons_of_mem _ (List.mem_append_left _ (List.mem_append_left _ (List.mem_append_right _ h)))
theorem inX5_findNext_X3 : ∀ w ∈ wsX30, w ∈ wsX5_findNext := fun _ h => List.mem_cons_of_mem _ (List.mem_append_left _ (List.mem_append_right _ h))
theorem inX5_findNext_X5 : ∀ w ∈ wsX50, w ∈ wsX5_findNext := fun _ h => List.mem_cons_of_mem _ (List.mem_append_left _ (List.mem_append_left _ (List.mem_append_right _ h)))
theorem inX5_hasNextHead_X1 : ∀ w ∈ wsX10, w ∈ wsX5_hasNextHead := fun _ h => List.mem_cons_of_mem _ (List.mem_append_left _ (List.mem_append_right _ h))
theorem inX5_hasNextHead_X5 : ∀ w ∈ wsX50, w ∈ wsX5_hasNextHead := fun _ h => List.mem_cons_of_mem _ (List.mem_append_left _ (List.mem_append_left _ (List.mem_append_right _ h)))
theorem inX5_init_X5 : ∀ w ∈ wsX50, w ∈ wsX5_init := fun _ h => List.mem_cons_of_mem _ (List.mem_append_right _ h)
theorem inX5_takeCheckpoint_X5 : ∀ w ∈ wsX50, w ∈ wsX5_takeCheckpoint := fun _ h => List.mem_cons_of_mem _ (List.mem_append_left _ (List.mem_append_left _ (List.mem_append_left _ (List.mem_append_left _ (List.mem_append_right _ h)))))
theorem inX6_fillRow_X2 : ∀ w ∈ wsX20, w ∈ wsX6_fillRow := fun _ h => List.mem_cons_of_mem _ (List.mem_append_right _ h)
theorem inX6_fillRow_X3 : ∀ w ∈ wsX30, w ∈ wsX6_fillRow := fun _ h => List.mem_cons_of_mem _ (List.mem_append_left _ (List.mem_append_right _ h))
theorem inX6_fillRow_X6 : ∀ w ∈ wsX60, w ∈ wsX6_fillRow := fun _ h => List.mem_cons_of_mem _ (List.mem_append_left _ (List.mem_append_left _ (List.mem_append_right _ h)))
theorem inX6_init_X6 : ∀ w ∈ wsX60, w ∈ wsX6_init := fun _ h => List.mem_cons_of_mem _ (List.mem_append_right _ h)
theorem inX6_numberAt_X1 : ∀ w ∈ wsX10, w ∈ wsX6_numberAt := fun _ h => List.mem_cons_of_mem _ (List.mem_append_right _ h)
theorem inX6_numberAt_X6 : ∀ w ∈ wsX60, w ∈ wsX6_numberAt := fun _ h => List.mem_cons_of_mem _ (List.mem_append_left _ (List.mem_append_right _ h))
theorem inX6_setAsAtFirst_X6 : ∀ w ∈ wsX60, w ∈ wsX6_setAsAtFirst := fun _ h => List.mem_cons_of_mem _ (List.mem_append_right _ h)
theorem inX6_write_X6 : ∀ w ∈ wsX60, w ∈ wsX6_write := fun _ h => List.mem_cons_of_mem _ (List.mem_append_left _ (List.mem_append_left _ (List.mem_append_left _ (List.mem_append_right _ h))))
theorem inX7_checkpoint_X6 : ∀ w ∈ wsX60, w ∈ wsX7_checkpoint := fun _ h => List.mem_cons_of_mem _ (List.mem_append_left _ (List.mem_append_left _ (List.mem_append_left _ (List.mem_append_right _ h))))
theorem inX7_checkpoint_X7 : ∀ w ∈ wsX70, w ∈ wsX7_checkpoint := fun _ h => List.mem_cons_of_mem _ (List.mem_append_left _ (List.mem_append_left _ (List.mem_append_left _ (List.mem_append_left _ (List.mem_append_right _ h)))))
theorem inX7_clean_X7 : ∀ w ∈ wsX70, w ∈ wsX7_clean := fun _ h => List.mem_cons_of_mem _ (List.mem_append_left _ (List.mem_append_left _ (List.mem_append_left _ (List.mem_append_right _ h))))
theorem inX7_cut_X7 : ∀ w ∈ wsX70, w ∈ wsX7_cut := fun _ h => List.mem_cons_of_mem _ (List.mem_append_left _ (List.mem_append_right _ h))
theorem inX7_disk_X1 : ∀ w ∈ wsX10, w ∈ wsX7_disk := fun _ h => List.mem_cons_of_mem _ (List.mem_append_right _ h)
theorem inX7_disk_X7 : ∀ w ∈ wsX70, w ∈ wsX7_disk := fun _ h => List.mem_cons_of_mem _ (List.mem_append_left _ (List.mem_append_right _ h))
theorem inX7_feed_X7 : ∀ w ∈ wsX70, w ∈ wsX7_feed := fun _ h => List.mem_cons_of_mem _ (List.mem_append_right _ h)
theorem inX7_init_X0 : ∀ w ∈ wsX00, w ∈ wsX7_init := fun _ h => List.mem_cons_of_mem _ (List.mem_append_left _ (List.mem_append_left _ (List.mem_append_right _ h)))
theorem inX7_init_X1 : ∀ w ∈ wsX10, w ∈ wsX7_init := fun _ h => List.mem_cons_of_mem _ (List.mem_append_left _ (List.mem_append_left _ (List.mem_append_left _ (List.mem_append_left _ (List.mem_append_left _ (List.mem_append_left _ (List.mem_append_right _ h)))))))
theorem inX7_init_X2 : ∀ w ∈ wsX20, w ∈ wsX7_init := fun _ h => List.mem_cons_of_mem _ (List.mem_append_left _ (List.mem_append_left _ (List.mem_append_left _ (List.mem_append_left _ (List.mem_append_right _ h)))))
theorem inX7_init_X3 : ∀ w ∈ wsX30, w ∈ wsX7_init := fun _ h => List.mem_cons_of_mem _ (List.mem_append_left _ (List.mem_append_left _ (List.mem_append_left _ (List.mem_append_right _ h))))
theorem inX7_init_X5 : ∀ w ∈ wsX50, w ∈ wsX7_init := fun _ h => List.mem_cons_of_mem _ (List.mem_append_right _ h)
theorem inX7_init_X6 : ∀ w ∈ wsX60, w ∈ wsX7_init := fun _ h => List.mem_cons_of_mem _ (List.mem_append_left _ (List.mem_append_right _ h))
theorem inX7_init_X7 : ∀ w ∈ wsX70, w ∈ wsX7_init := fun _ h => List.mem_cons_of_mem _ (List.mem_append_left _ (List.mem_append_left _ (List.mem_append_left _ (List.mem_append_left _ (List.mem_append_left _ (List.mem_append_right _ h))))))
theorem inX7_poke_X7 : ∀ w ∈ wsX70, w ∈ wsX7_poke := fun _ h => List.mem_cons_of_mem _ (List.mem_append_left _ (List.mem_append_right _ h))
theorem inX7_put_X3 : ∀ w ∈ wsX30, w ∈ wsX7_put := fun _ h => List.mem_cons_of_mem _ (List.mem_append_left _ (List.mem_append_right _ h))
theorem inX7_put_X7 : ∀ w ∈ wsX70, w ∈ wsX7_put := fun _ h => List.mem_cons_of_mem _ (List.mem_append_left _ (List.mem_append_left _ (List.mem_append_right _ h)))
theorem inX7_remove_X7 : ∀ w ∈ wsX70, w ∈ wsX7_remove := fun _ h => List.mem_cons_of_mem _ (List.mem_append_left _ (List.mem_append_left _ (List.mem_append_right _ h)))
theorem inX7_segment_X7 : ∀ w ∈ wsX70, w ∈ wsX7_segment := fun _ h => List.mem_cons_of_mem _ (List.mem_append_left _ (List.mem_append_left _ (List.mem_append_right _ h)))
theorem inX7_size_X7 : ∀ w ∈ wsX70, w ∈ wsX7_size := fun _ h => List.mem_cons_of_mem _ (List.mem_append_left _ (List.mem_append_left _ (List.mem_append_right _ h)))
theorem inX7_start_X7 : ∀ w ∈ wsX70, w ∈ wsX7_start := fun _ h => List.mem_cons_of_mem _ (List.mem_append_left _ (List.mem_append_left _ (List.mem_append_left _ (List.mem_append_left _ (List.mem_append_left _ (List.mem_append_right _ h))))))
theorem inX7_sync_X7 : ∀ w ∈ wsX70, w ∈ wsX7_sync := fun _ h => List.mem_cons_of_mem _ (List.mem_append_left _ (List.mem_append_left _ (List.mem_append_right _ h)))
theorem inX7_tick_X3 : ∀ w ∈ wsX30, w ∈ wsX7_tick := fun _ h => List.mem_cons_of_mem _ (List.mem_append_right _ h)
theorem inX7_tick_X7 : ∀ w ∈ wsX70, w ∈ wsX7_tick := fun _ h => List.mem_cons_of_mem _ (List.mem_append_left _ (List.mem_append_right _ h))
theorem inX7_told_X1 : ∀ w ∈ wsX10, w ∈ wsX7_told := fun _ h => List.mem_cons_of_mem _ (List.mem_append_left _ (List.mem_append_left _ (List.mem_append_left _ (List.mem_append_right _ h))))
theorem inX7_told_X7 : ∀ w ∈ wsX70, w ∈ wsX7_told := fun _ h => List.mem_cons_of_mem _ (List.mem_append_left _ (List.mem_append_left _ (List.mem_append_left _ (List.mem_append_left _ (List.mem_append_right _ h)))))
theorem inX7_toldWhileUp_X2 : ∀ w ∈ wsX20, w ∈ wsX7_toldWhileUp := fun _ h => List.mem_cons_of_mem _ (List.mem_append_left _ (List.mem_append_right _ h))
theorem inX7_toldWhileUp_X3 : ∀ w ∈ wsX30, w ∈ wsX7_toldWhileUp := fun _ h => List.mem_cons_of_mem _ (List.mem_append_left _ (List.mem_append_left _ (List.mem_append_right _ h)))
theorem inX7_toldWhileUp_X6 : ∀ w ∈ wsX60, w ∈ wsX7_toldWhileUp := fun _ h => List.mem_cons_of_mem _ (List.mem_append_right _ h)
theorem inX7_toldWhileUp_X7 : ∀ w ∈ wsX70, w ∈ wsX7_toldWhileUp := fun _ h => List.mem_cons_of_mem _ (List.mem_append_left _ (List.mem_append_left _ (List.mem_append_left _ (List.mem_append_right _ h))))
theorem inX7_value_X7 : ∀ w ∈ wsX70, w ∈ wsX7_value := fun _ h => List.mem_cons_of_mem _ (List.mem_append_left _ (List.mem_append_left _ (List.mem_append_right _ h)))
theorem inX7_where_X7 : ∀ w ∈ wsX70, w ∈ wsX7_where := fun _ h => List.mem_cons_of_mem _ (List.mem_append_left _ (List.mem_append_left _ (List.mem_append_right _ h)))
theorem inX8_best_X8 : ∀ w ∈ wsX80, w ∈ wsX8_best := fun _ h => List.mem_cons_of_mem _ (List.mem_append_right _ h)
theorem inX8_came_X8 : ∀ w ∈ wsX80, w ∈ wsX8_came := fun _ h => List.mem_cons_of_mem _ (List.mem_append_right _ h)
theorem inX8_checkpoint_X8 : ∀ w ∈ wsX80, w ∈ wsX8_checkpoint := fun _ h => List.mem_cons_of_mem _ (List.mem_append_right _ h)
theorem inX8_clean_X8 : ∀ w ∈ wsX80, w ∈ wsX8_clean := fun _ h => List.mem_cons_of_mem _ (List.mem_append_right _ h)
theorem inX8_cut_X8 : ∀ w ∈ wsX80, w ∈ wsX8_cut := fun _ h => List.mem_cons_of_mem _ (List.mem_append_right _ h)
theorem inX8_disk_X8 : ∀ w ∈ wsX80, w ∈ wsX8_disk := fun _ h => List.mem_cons_of_mem _ (List.mem_append_right _ h)
theorem inX8_feed_X8 : ∀ w ∈ wsX80, w ∈ wsX8_feed := fun _ h => List.mem_cons_of_mem _ (List.mem_append_right _ h)
theorem inX8_frees_X8 : ∀ w ∈ wsX80, w ∈ wsX8_frees := fun _ h => List.mem_cons_of_mem _ (List.mem_append_right _ h)
theorem inX8_goesOn_X8 : ∀ w ∈ wsX80, w ∈ wsX8_goesOn := fun _ h => List.mem_cons_of_mem _ (List.mem_append_right _ h)
theorem inX8_init_X8 : ∀ w ∈ wsX80, w ∈ wsX8_init := fun _ h => List.mem_cons_of_mem _ (List.mem_append_right _ h)
theorem inX8_isRight_X8 : ∀ w ∈ wsX80, w ∈ wsX8_isRight := fun _ h => List.mem_cons_of_mem _ (List.mem_append_right _ h)
theorem inX8_keys_X8 : ∀ w ∈ wsX80, w ∈ wsX8_keys := fun _ h => List.mem_cons_of_mem _ (List.mem_append_right _ h)
theorem inX8_none_X8 : ∀ w ∈ wsX80, w ∈ wsX8_none := fun _ h => List.mem_cons_of_mem _ (List.mem_append_right _ h)
theorem inX8_octets_X8 : ∀ w ∈ wsX80, w ∈ wsX8_octets := fun _ h => List.mem_cons_of_mem _ (List.mem_append_right _ h)
theorem inX8_openNext_X8 : ∀ w ∈ wsX80, w ∈ wsX8_openNext := fun _ h => List.mem_cons_of_mem _ (List.mem_append_right _ h)
theorem inX8_opens_X8 : ∀ w ∈ wsX80, w ∈ wsX8_opens := fun _ h => List.mem_cons_of_mem _ (List.mem_append_right _ h)
theorem inX8_poke_X8 : ∀ w ∈ wsX80, w ∈ wsX8_poke := fun _ h => List.mem_cons_of_mem _ (List.mem_append_right _ h)
theorem inX8_put_X8 : ∀ w ∈ wsX80, w ∈ wsX8_put := fun _ h => List.mem_cons_of_mem _ (List.mem_append_right _ h)
theorem inX8_record_X8 : ∀ w ∈ wsX80, w ∈ wsX8_record := fun _ h => List.mem_cons_of_mem _ (List.mem_append_right _ h)
theorem inX8_remove_X8 : ∀ w ∈ wsX80, w ∈ wsX8_remove := fun _ h => List.mem_cons_of_mem _ (List.mem_append_right _ h)
theorem inX8_segment_X8 : ∀ w ∈ wsX80, w ∈ wsX8_segment := fun _ h => List.mem_cons_of_mem _ (List.mem_append_right _ h)
theorem inX8_size_X8 : ∀ w ∈ wsX80, w ∈ wsX8_size := fun _ h => List.mem_cons_of_mem _ (List.mem_append_right _ h)
theorem inX8_start_X8 : ∀ w ∈ wsX80, w ∈ wsX8_start := fun _ h => List.mem_cons_of_mem _ (List.mem_append_right _ h)
theorem inX8_sync_X8 : ∀ w ∈ wsX80, w ∈ wsX8_sync := fun _ h => List.mem_cons_of_mem _ (List.mem_append_right _ h)
theorem inX8_syncAll_X8 : ∀ w ∈ wsX80, w ∈ wsX8_syncAll := fun _ h => List.mem_cons_of_mem _ (List.mem_append_right _ h)
theorem inX8_tick_X8 : ∀ w ∈ wsX80, w ∈ wsX8_tick := fun _ h => List.mem_cons_of_mem _ (List.mem_append_right _ h)
theorem inX8_told_X8 : ∀ w ∈ wsX80, w ∈ wsX8_told := fun _ h => List.mem_cons_of_mem _ (List.mem_append_right _ h)
theorem inX8_value_X8 : ∀ w ∈ wsX80, w ∈ wsX8_value := fun _ h => List.mem_cons_of_mem _ (List.mem_append_right _ h)
theorem inX8_where_X8 : ∀ w ∈ wsX80, w ∈ wsX8_where := fun _ h => List.mem_cons_of_mem _ (List.mem_append_right _ h)
theorem inX8_write_X8 : ∀ w ∈ wsX80, w ∈ wsX8_write := fun _ h => List.mem_cons_of_mem _ (List.mem_append_right _ h)
set_option maxRecDepth 20000 in
theorem wdL_law_0 : Cond.classLink RL 7 RX7 ∈ wsL_law := by decide +kernel
set_option maxRecDepth 20000 in
theorem wdL_law_1 : Cond.instantiable RX7 9 ∈ wsL_law := by decide +kernel
set_option maxRecDepth 20000 in
theorem wdL_law_2 : Cond.initialized RX7 ∈ wsL_law := by decide +kernel
set_option maxRecDepth 20000 in
theorem wdL_law_3 : Cond.methodLink RL 9 yX7_init ∈ wsL_law := by decide +kernel
set_option maxRecDepth 20000 in
theorem wdL_law_4 : Cond.instanceMethod yX7_init ∈ wsL_law := by decide +kernel
set_option maxRecDepth 20000 in
theorem wdL_law_5 : Cond.classLink RL 10 RX8 ∈ wsL_law := by decide +kernel
set_option maxRecDepth 20000 in
theorem wdL_law_6 : Cond.instantiable RX8 30 ∈ wsL_law := by decide +kernel
set_option maxRecDepth 20000 in
theorem wdL_law_7 : Cond.initialized RX8 ∈ wsL_law := by decide +kernel
set_option maxRecDepth 20000 in
theorem wdL_law_8 : Cond.methodLink RL 12 yX8_init ∈ wsL_law := by decide +kernel
set_option maxRecDepth 20000 in
theorem wdL_law_9 : Cond.instanceMethod yX8_init ∈ wsL_law := by decide +kernel
set_option maxRecDepth 20000 in
theorem wdL_law_10 : Cond.constantLong RL 13 4294967295 ∈ wsL_law := by decide +kernel
set_option maxRecDepth 20000 in
theorem wdX0_bestLeft_0 : Cond.fieldLink RX0 26 "AgedLog$Cleaner" "log" "LAgedLog$Log;" ∈ wsX0_bestLeft := by decide +kernel
set_option maxRecDepth 20000 in
theorem wdX0_countWanted_0 : Cond.fieldLink RX0 26 "AgedLog$Cleaner" "log" "LAgedLog$Log;" ∈ wsX0_countWanted := by decide +kernel
set_option maxRecDepth 20000 in
theorem wdX0_countWanted_1 : Cond.fieldLink RX0 22 "AgedLog$Cleaner" "agedCount" "I" ∈ wsX0_countWanted := by decide +kernel
set_option maxRecDepth 20000 in
theorem wdX0_forgetChosen_0 : Cond.fieldLink RX0 9 "AgedLog$Cleaner" "chosen" "[Z" ∈ wsX0_forgetChosen := by decide +kernel
set_option maxRecDepth 20000 in
theorem wdX0_gatherAged_0 : Cond.fieldLink RX0 22 "AgedLog$Cleaner" "agedCount" "I" ∈ wsX0_gatherAged := by decide +kernel
set_option maxRecDepth 20000 in
theorem wdX0_gatherAged_1 : Cond.fieldLink RX0 30 "AgedLog$Cleaner" "index" "LAgedLog$Index;" ∈ wsX0_gatherAged := by decide +kernel
set_option maxRecDepth 20000 in
theorem wdX0_init_0 : Cond.methodLink RX0 3 objectInit ∈ wsX0_init := by decide +kernel
set_option maxRecDepth 20000 in
theorem wdX0_init_1 : Cond.instanceMethod objectInit ∈ wsX0_init := by decide +kernel
set_option maxRecDepth 20000 in
theorem wdX0_init_2 : Cond.code objectInit ⟨#[0xb1]⟩ 1 none ∈ wsX0_init := by decide +kernel
set_option maxRecDepth 20000 in
theorem wdX0_init_3 : Cond.arrayClass .boolean ∈ wsX0_init := by decide +kernel
set_option maxRecDepth 20000 in
theorem wdX0_init_4 : Cond.fieldLink RX0 9 "AgedLog$Cleaner" "chosen" "[Z" ∈ wsX0_init := by decide +kernel
set_option maxRecDepth 20000 in
theorem wdX0_init_5 : Cond.arrayClass .int ∈ wsX0_init := by decide +kernel
set_option maxRecDepth 20000 in
theorem wdX0_init_6 : Cond.fieldLink RX0 15 "AgedLog$Cleaner" "live" "[I" ∈ wsX0_init := by decide +kernel
set_option maxRecDepth 20000 in
theorem wdX0_init_7 : Cond.fieldLink RX0 19 "AgedLog$Cleaner" "aged" "[I" ∈ wsX0_init := by decide +kernel
set_option maxRecDepth 20000 in
theorem wdX0_init_8 : Cond.fieldLink RX0 22 "AgedLog$Cleaner" "agedCount" "I" ∈ wsX0_init := by decide +kernel
set_option maxRecDepth 20000 in
theorem wdX0_init_9 : Cond.fieldLink RX0 26 "AgedLog$Cleaner" "log" "LAgedLog$Log;" ∈ wsX0_init := by decide +kernel
set_option maxRecDepth 20000 in
theorem wdX0_init_10 : Cond.fieldLink RX0 30 "AgedLog$Cleaner" "index" "LAgedLog$Index;" ∈ wsX0_init := by decide +kernel
set_option maxRecDepth 20000 in
theorem wdX0_spend_0 : Cond.fieldLink RX0 26 "AgedLog$Cleaner" "log" "LAgedLog$Log;" ∈ wsX0_spend := by decide +kernel
set_option maxRecDepth 20000 in
theorem wdX0_spend_1 : Cond.fieldLink RX0 22 "AgedLog$Cleaner" "agedCount" "I" ∈ wsX0_spend := by decide +kernel
set_option maxRecDepth 20000 in
theorem wdX0_spend_2 : Cond.fieldLink RX0 9 "AgedLog$Cleaner" "chosen" "[Z" ∈ wsX0_spend := by decide +kernel
set_option maxRecDepth 20000 in
theorem wdX0_weighLive_0 : Cond.fieldLink RX0 15 "AgedLog$Cleaner" "live" "[I" ∈ wsX0_weighLive := by decide +kernel
set_option maxRecDepth 20000 in
theorem wdX0_weighLive_1 : Cond.fieldLink RX0 30 "AgedLog$Cleaner" "index" "LAgedLog$Index;" ∈ wsX0_weighLive := by decide +kernel
set_option maxRecDepth 20000 in
theorem wdX1_cutAt_0 : Cond.fieldLink RX1 24 "AgedLog$Disk" "sectorsToCut" "I" ∈ wsX1_cutAt := by decide +kernel
set_option maxRecDepth 20000 in
theorem wdX1_cutAt_1 : Cond.fieldLink RX1 27 "AgedLog$Disk" "octetsToCut" "I" ∈ wsX1_cutAt := by decide +kernel
set_option maxRecDepth 20000 in
theorem wdX1_flip_0 : Cond.fieldLink RX1 10 "AgedLog$Disk" "row" "[B" ∈ wsX1_flip := by decide +kernel
set_option maxRecDepth 20000 in
theorem wdX1_init_0 : Cond.methodLink RX1 3 objectInit ∈ wsX1_init := by decide +kernel
set_option maxRecDepth 20000 in
theorem wdX1_init_1 : Cond.instanceMethod objectInit ∈ wsX1_init := by decide +kernel
set_option maxRecDepth 20000 in
theorem wdX1_init_2 : Cond.code objectInit ⟨#[0xb1]⟩ 1 none ∈ wsX1_init := by decide +kernel
set_option maxRecDepth 20000 in
theorem wdX1_init_3 : Cond.constant RX1 9 65536 ∈ wsX1_init := by decide +kernel
set_option maxRecDepth 20000 in
theorem wdX1_init_4 : Cond.arrayClass .byte ∈ wsX1_init := by decide +kernel
set_option maxRecDepth 20000 in
theorem wdX1_init_5 : Cond.fieldLink RX1 10 "AgedLog$Disk" "row" "[B" ∈ wsX1_init := by decide +kernel
set_option maxRecDepth 20000 in
theorem wdX1_init_6 : Cond.arrayClass .int ∈ wsX1_init := by decide +kernel
set_option maxRecDepth 20000 in
theorem wdX1_init_7 : Cond.fieldLink RX1 16 "AgedLog$Disk" "tornTail" "[I" ∈ wsX1_init := by decide +kernel
set_option maxRecDepth 20000 in
theorem wdX1_init_8 : Cond.fieldLink RX1 20 "AgedLog$Disk" "written" "I" ∈ wsX1_init := by decide +kernel
set_option maxRecDepth 20000 in
theorem wdX1_init_9 : Cond.fieldLink RX1 24 "AgedLog$Disk" "sectorsToCut" "I" ∈ wsX1_init := by decide +kernel
set_option maxRecDepth 20000 in
theorem wdX1_init_10 : Cond.fieldLink RX1 27 "AgedLog$Disk" "octetsToCut" "I" ∈ wsX1_init := by decide +kernel
set_option maxRecDepth 20000 in
theorem wdX1_write_0 : Cond.fieldLink RX1 16 "AgedLog$Disk" "tornTail" "[I" ∈ wsX1_write := by decide +kernel
set_option maxRecDepth 20000 in
theorem wdX1_write_1 : Cond.fieldLink RX1 24 "AgedLog$Disk" "sectorsToCut" "I" ∈ wsX1_write := by decide +kernel
set_option maxRecDepth 20000 in
theorem wdX1_write_2 : Cond.fieldLink RX1 10 "AgedLog$Disk" "row" "[B" ∈ wsX1_write := by decide +kernel
set_option maxRecDepth 20000 in
theorem wdX1_write_3 : Cond.fieldLink RX1 20 "AgedLog$Disk" "written" "I" ∈ wsX1_write := by decide +kernel
set_option maxRecDepth 20000 in
theorem wdX2_clear_0 : Cond.fieldLink RX2 9 "AgedLog$Index" "segments" "[I" ∈ wsX2_clear := by decide +kernel
set_option maxRecDepth 20000 in
theorem wdX2_clear_1 : Cond.fieldLink RX2 15 "AgedLog$Index" "places" "[I" ∈ wsX2_clear := by decide +kernel
set_option maxRecDepth 20000 in
theorem wdX2_clear_2 : Cond.fieldLink RX2 18 "AgedLog$Index" "count" "I" ∈ wsX2_clear := by decide +kernel
set_option maxRecDepth 20000 in
theorem wdX2_follow_0 : Cond.initialized RX7 ∈ wsX2_follow := by decide +kernel
set_option maxRecDepth 20000 in
theorem wdX2_follow_1 : Cond.static yX7_isKey ∈ wsX2_follow := by decide +kernel
set_option maxRecDepth 20000 in
theorem wdX2_follow_2 : Cond.fieldLink RX2 9 "AgedLog$Index" "segments" "[I" ∈ wsX2_follow := by decide +kernel
set_option maxRecDepth 20000 in
theorem wdX2_follow_3 : Cond.fieldLink RX2 15 "AgedLog$Index" "places" "[I" ∈ wsX2_follow := by decide +kernel
set_option maxRecDepth 20000 in
theorem wdX2_follow_4 : Cond.fieldLink RX2 18 "AgedLog$Index" "count" "I" ∈ wsX2_follow := by decide +kernel
set_option maxRecDepth 20000 in
theorem wdX2_has_0 : Cond.initialized RX7 ∈ wsX2_has := by decide +kernel
set_option maxRecDepth 20000 in
theorem wdX2_has_1 : Cond.static yX7_isKey ∈ wsX2_has := by decide +kernel
set_option maxRecDepth 20000 in
theorem wdX2_has_2 : Cond.fieldLink RX2 9 "AgedLog$Index" "segments" "[I" ∈ wsX2_has := by decide +kernel
set_option maxRecDepth 20000 in
theorem wdX2_has_3 : Cond.static yX7_isOfLog ∈ wsX2_has := by decide +kernel
set_option maxRecDepth 20000 in
theorem wdX2_init_0 : Cond.methodLink RX2 3 objectInit ∈ wsX2_init := by decide +kernel
set_option maxRecDepth 20000 in
theorem wdX2_init_1 : Cond.instanceMethod objectInit ∈ wsX2_init := by decide +kernel
set_option maxRecDepth 20000 in
theorem wdX2_init_2 : Cond.code objectInit ⟨#[0xb1]⟩ 1 none ∈ wsX2_init := by decide +kernel
set_option maxRecDepth 20000 in
theorem wdX2_init_3 : Cond.arrayClass .int ∈ wsX2_init := by decide +kernel
set_option maxRecDepth 20000 in
theorem wdX2_init_4 : Cond.fieldLink RX2 9 "AgedLog$Index" "segments" "[I" ∈ wsX2_init := by decide +kernel
set_option maxRecDepth 20000 in
theorem wdX2_init_5 : Cond.fieldLink RX2 15 "AgedLog$Index" "places" "[I" ∈ wsX2_init := by decide +kernel
set_option maxRecDepth 20000 in
theorem wdX2_init_6 : Cond.fieldLink RX2 18 "AgedLog$Index" "count" "I" ∈ wsX2_init := by decide +kernel
set_option maxRecDepth 20000 in
theorem wdX3_append_0 : Cond.fieldLink RX3 49 "AgedLog$Log" "nextSequence" "I" ∈ wsX3_append := by decide +kernel
set_option maxRecDepth 20000 in
theorem wdX3_append_1 : Cond.fieldLink RX3 40 "AgedLog$Log" "open" "I" ∈ wsX3_append := by decide +kernel
set_option maxRecDepth 20000 in
theorem wdX3_append_2 : Cond.fieldLink RX3 43 "AgedLog$Log" "place" "I" ∈ wsX3_append := by decide +kernel
set_option maxRecDepth 20000 in
theorem wdX3_append_3 : Cond.fieldLink RX3 10 "AgedLog$Log" "memory" "[B" ∈ wsX3_append := by decide +kernel
set_option maxRecDepth 20000 in
theorem wdX3_append_4 : Cond.fieldLink RX3 55 "AgedLog$Log" "index" "LAgedLog$Index;" ∈ wsX3_append := by decide +kernel
set_option maxRecDepth 20000 in
theorem wdX3_countFree_0 : Cond.fieldLink RX3 16 "AgedLog$Log" "states" "[I" ∈ wsX3_countFree := by decide +kernel
set_option maxRecDepth 20000 in
theorem wdX3_countFreshOctets_0 : Cond.fieldLink RX3 36 "AgedLog$Log" "freshCount" "I" ∈ wsX3_countFreshOctets := by decide +kernel
set_option maxRecDepth 20000 in
theorem wdX3_fits_0 : Cond.fieldLink RX3 40 "AgedLog$Log" "open" "I" ∈ wsX3_fits := by decide +kernel
set_option maxRecDepth 20000 in
theorem wdX3_forgetTimes_0 : Cond.initialized RX7 ∈ wsX3_forgetTimes := by decide +kernel
set_option maxRecDepth 20000 in
theorem wdX3_forgetTimes_1 : Cond.static yX7_isOfLog ∈ wsX3_forgetTimes := by decide +kernel
set_option maxRecDepth 20000 in
theorem wdX3_forgetTimes_2 : Cond.fieldLink RX3 20 "AgedLog$Log" "hasRecords" "[Z" ∈ wsX3_forgetTimes := by decide +kernel
set_option maxRecDepth 20000 in
theorem wdX3_freeSpent_0 : Cond.fieldLink RX3 16 "AgedLog$Log" "states" "[I" ∈ wsX3_freeSpent := by decide +kernel
set_option maxRecDepth 20000 in
theorem wdX3_init_0 : Cond.methodLink RX3 3 objectInit ∈ wsX3_init := by decide +kernel
set_option maxRecDepth 20000 in
theorem wdX3_init_1 : Cond.instanceMethod objectInit ∈ wsX3_init := by decide +kernel
set_option maxRecDepth 20000 in
theorem wdX3_init_2 : Cond.code objectInit ⟨#[0xb1]⟩ 1 none ∈ wsX3_init := by decide +kernel
set_option maxRecDepth 20000 in
theorem wdX3_init_3 : Cond.constant RX3 9 65536 ∈ wsX3_init := by decide +kernel
set_option maxRecDepth 20000 in
theorem wdX3_init_4 : Cond.arrayClass .byte ∈ wsX3_init := by decide +kernel
set_option maxRecDepth 20000 in
theorem wdX3_init_5 : Cond.fieldLink RX3 10 "AgedLog$Log" "memory" "[B" ∈ wsX3_init := by decide +kernel
set_option maxRecDepth 20000 in
theorem wdX3_init_6 : Cond.arrayClass .int ∈ wsX3_init := by decide +kernel
set_option maxRecDepth 20000 in
theorem wdX3_init_7 : Cond.fieldLink RX3 16 "AgedLog$Log" "states" "[I" ∈ wsX3_init := by decide +kernel
set_option maxRecDepth 20000 in
theorem wdX3_init_8 : Cond.arrayClass .boolean ∈ wsX3_init := by decide +kernel
set_option maxRecDepth 20000 in
theorem wdX3_init_9 : Cond.fieldLink RX3 20 "AgedLog$Log" "hasRecords" "[Z" ∈ wsX3_init := by decide +kernel
set_option maxRecDepth 20000 in
theorem wdX3_init_10 : Cond.fieldLink RX3 24 "AgedLog$Log" "latestTimes" "[I" ∈ wsX3_init := by decide +kernel
set_option maxRecDepth 20000 in
theorem wdX3_init_11 : Cond.fieldLink RX3 27 "AgedLog$Log" "fresh" "[I" ∈ wsX3_init := by decide +kernel
set_option maxRecDepth 20000 in
theorem wdX3_init_12 : Cond.fieldLink RX3 30 "AgedLog$Log" "freshFrom" "[I" ∈ wsX3_init := by decide +kernel
set_option maxRecDepth 20000 in
theorem wdX3_init_13 : Cond.fieldLink RX3 33 "AgedLog$Log" "freshTo" "[I" ∈ wsX3_init := by decide +kernel
set_option maxRecDepth 20000 in
theorem wdX3_init_14 : Cond.fieldLink RX3 36 "AgedLog$Log" "freshCount" "I" ∈ wsX3_init := by decide +kernel
set_option maxRecDepth 20000 in
theorem wdX3_init_15 : Cond.fieldLink RX3 40 "AgedLog$Log" "open" "I" ∈ wsX3_init := by decide +kernel
set_option maxRecDepth 20000 in
theorem wdX3_init_16 : Cond.fieldLink RX3 43 "AgedLog$Log" "place" "I" ∈ wsX3_init := by decide +kernel
set_option maxRecDepth 20000 in
theorem wdX3_init_17 : Cond.fieldLink RX3 46 "AgedLog$Log" "order" "I" ∈ wsX3_init := by decide +kernel
set_option maxRecDepth 20000 in
theorem wdX3_init_18 : Cond.fieldLink RX3 49 "AgedLog$Log" "nextSequence" "I" ∈ wsX3_init := by decide +kernel
set_option maxRecDepth 20000 in
theorem wdX3_init_19 : Cond.fieldLink RX3 52 "AgedLog$Log" "clock" "I" ∈ wsX3_init := by decide +kernel
set_option maxRecDepth 20000 in
theorem wdX3_init_20 : Cond.fieldLink RX3 55 "AgedLog$Log" "index" "LAgedLog$Index;" ∈ wsX3_init := by decide +kernel
set_option maxRecDepth 20000 in
theorem wdX3_isUsed_0 : Cond.initialized RX7 ∈ wsX3_isUsed := by decide +kernel
set_option maxRecDepth 20000 in
theorem wdX3_isUsed_1 : Cond.static yX7_isOfLog ∈ wsX3_isUsed := by decide +kernel
set_option maxRecDepth 20000 in
theorem wdX3_isUsed_2 : Cond.fieldLink RX3 16 "AgedLog$Log" "states" "[I" ∈ wsX3_isUsed := by decide +kernel
set_option maxRecDepth 20000 in
theorem wdX3_leastFree_0 : Cond.fieldLink RX3 16 "AgedLog$Log" "states" "[I" ∈ wsX3_leastFree := by decide +kernel
set_option maxRecDepth 20000 in
theorem wdX3_loadMemory_0 : Cond.fieldLink RX3 40 "AgedLog$Log" "open" "I" ∈ wsX3_loadMemory := by decide +kernel
set_option maxRecDepth 20000 in
theorem wdX3_noteFresh_0 : Cond.fieldLink RX3 40 "AgedLog$Log" "open" "I" ∈ wsX3_noteFresh := by decide +kernel
set_option maxRecDepth 20000 in
theorem wdX3_noteFresh_1 : Cond.initialized RX7 ∈ wsX3_noteFresh := by decide +kernel
set_option maxRecDepth 20000 in
theorem wdX3_noteFresh_2 : Cond.static yX7_isOfLog ∈ wsX3_noteFresh := by decide +kernel
set_option maxRecDepth 20000 in
theorem wdX3_noteFresh_3 : Cond.fieldLink RX3 36 "AgedLog$Log" "freshCount" "I" ∈ wsX3_noteFresh := by decide +kernel
set_option maxRecDepth 20000 in
theorem wdX3_noteFresh_4 : Cond.fieldLink RX3 27 "AgedLog$Log" "fresh" "[I" ∈ wsX3_noteFresh := by decide +kernel
set_option maxRecDepth 20000 in
theorem wdX3_noteFresh_5 : Cond.fieldLink RX3 30 "AgedLog$Log" "freshFrom" "[I" ∈ wsX3_noteFresh := by decide +kernel
set_option maxRecDepth 20000 in
theorem wdX3_noteFresh_6 : Cond.fieldLink RX3 43 "AgedLog$Log" "place" "I" ∈ wsX3_noteFresh := by decide +kernel
set_option maxRecDepth 20000 in
theorem wdX3_noteFresh_7 : Cond.fieldLink RX3 33 "AgedLog$Log" "freshTo" "[I" ∈ wsX3_noteFresh := by decide +kernel
set_option maxRecDepth 20000 in
theorem wdX3_noteTime_0 : Cond.initialized RX7 ∈ wsX3_noteTime := by decide +kernel
set_option maxRecDepth 20000 in
theorem wdX3_noteTime_1 : Cond.static yX7_isOfLog ∈ wsX3_noteTime := by decide +kernel
set_option maxRecDepth 20000 in
theorem wdX3_noteTime_2 : Cond.fieldLink RX3 20 "AgedLog$Log" "hasRecords" "[Z" ∈ wsX3_noteTime := by decide +kernel
set_option maxRecDepth 20000 in
theorem wdX3_noteTime_3 : Cond.fieldLink RX3 24 "AgedLog$Log" "latestTimes" "[I" ∈ wsX3_noteTime := by decide +kernel
set_option maxRecDepth 20000 in
theorem wdX3_openNext_0 : Cond.fieldLink RX3 40 "AgedLog$Log" "open" "I" ∈ wsX3_openNext := by decide +kernel
set_option maxRecDepth 20000 in
theorem wdX3_openNext_1 : Cond.fieldLink RX3 43 "AgedLog$Log" "place" "I" ∈ wsX3_openNext := by decide +kernel
set_option maxRecDepth 20000 in
theorem wdX3_openNext_2 : Cond.fieldLink RX3 46 "AgedLog$Log" "order" "I" ∈ wsX3_openNext := by decide +kernel
set_option maxRecDepth 20000 in
theorem wdX3_openNext_3 : Cond.fieldLink RX3 10 "AgedLog$Log" "memory" "[B" ∈ wsX3_openNext := by decide +kernel
set_option maxRecDepth 20000 in
theorem wdX3_setAsAtFirst_0 : Cond.fieldLink RX3 16 "AgedLog$Log" "states" "[I" ∈ wsX3_setAsAtFirst := by decide +kernel
set_option maxRecDepth 20000 in
theorem wdX3_setAsAtFirst_1 : Cond.fieldLink RX3 36 "AgedLog$Log" "freshCount" "I" ∈ wsX3_setAsAtFirst := by decide +kernel
set_option maxRecDepth 20000 in
theorem wdX3_setAsAtFirst_2 : Cond.fieldLink RX3 40 "AgedLog$Log" "open" "I" ∈ wsX3_setAsAtFirst := by decide +kernel
set_option maxRecDepth 20000 in
theorem wdX3_setAsAtFirst_3 : Cond.fieldLink RX3 43 "AgedLog$Log" "place" "I" ∈ wsX3_setAsAtFirst := by decide +kernel
set_option maxRecDepth 20000 in
theorem wdX3_setAsAtFirst_4 : Cond.fieldLink RX3 46 "AgedLog$Log" "order" "I" ∈ wsX3_setAsAtFirst := by decide +kernel
set_option maxRecDepth 20000 in
theorem wdX3_setAsAtFirst_5 : Cond.fieldLink RX3 49 "AgedLog$Log" "nextSequence" "I" ∈ wsX3_setAsAtFirst := by decide +kernel
set_option maxRecDepth 20000 in
theorem wdX3_setAsAtFirst_6 : Cond.fieldLink RX3 52 "AgedLog$Log" "clock" "I" ∈ wsX3_setAsAtFirst := by decide +kernel
set_option maxRecDepth 20000 in
theorem wdX3_stateOf_0 : Cond.initialized RX7 ∈ wsX3_stateOf := by decide +kernel
set_option maxRecDepth 20000 in
theorem wdX3_stateOf_1 : Cond.static yX7_isOfLog ∈ wsX3_stateOf := by decide +kernel
set_option maxRecDepth 20000 in
theorem wdX3_stateOf_2 : Cond.fieldLink RX3 40 "AgedLog$Log" "open" "I" ∈ wsX3_stateOf := by decide +kernel
set_option maxRecDepth 20000 in
theorem wdX3_stateOf_3 : Cond.fieldLink RX3 16 "AgedLog$Log" "states" "[I" ∈ wsX3_stateOf := by decide +kernel
set_option maxRecDepth 20000 in
theorem wdX3_use_0 : Cond.initialized RX7 ∈ wsX3_use := by decide +kernel
set_option maxRecDepth 20000 in
theorem wdX3_use_1 : Cond.static yX7_isOfLog ∈ wsX3_use := by decide +kernel
set_option maxRecDepth 20000 in
theorem wdX3_use_2 : Cond.fieldLink RX3 16 "AgedLog$Log" "states" "[I" ∈ wsX3_use := by decide +kernel
set_option maxRecDepth 20000 in
theorem wdX3_writeFresh_0 : Cond.fieldLink RX3 36 "AgedLog$Log" "freshCount" "I" ∈ wsX3_writeFresh := by decide +kernel
set_option maxRecDepth 20000 in
theorem wdX4_copy_0 : Cond.methodLink RX4 28 arraycopyName ∈ wsX4_copy := by decide +kernel
set_option maxRecDepth 20000 in
theorem wdX4_copy_1 : Cond.native arraycopyName ∈ wsX4_copy := by decide +kernel
set_option maxRecDepth 20000 in
theorem wdX4_copy_2 : Cond.static arraycopyName ∈ wsX4_copy := by decide +kernel
set_option maxRecDepth 20000 in
theorem wdX4_copy_3 : Cond.initialized "java/lang/System" ∈ wsX4_copy := by decide +kernel
set_option maxRecDepth 20000 in
theorem wdX4_sum_0 : Cond.constant RX4 19 (-1640531535) ∈ wsX4_sum := by decide +kernel
set_option maxRecDepth 20000 in
theorem wdX5_fillMemory_0 : Cond.fieldLink RX5 15 "AgedLog$Recovery" "log" "LAgedLog$Log;" ∈ wsX5_fillMemory := by decide +kernel
set_option maxRecDepth 20000 in
theorem wdX5_fillMemory_1 : Cond.fieldLink RX5 9 "AgedLog$Recovery" "drive" "LAgedLog$Disk;" ∈ wsX5_fillMemory := by decide +kernel
set_option maxRecDepth 20000 in
theorem wdX5_findNext_0 : Cond.fieldLink RX5 15 "AgedLog$Recovery" "log" "LAgedLog$Log;" ∈ wsX5_findNext := by decide +kernel
set_option maxRecDepth 20000 in
theorem wdX5_hasNextHead_0 : Cond.fieldLink RX5 9 "AgedLog$Recovery" "drive" "LAgedLog$Disk;" ∈ wsX5_hasNextHead := by decide +kernel
set_option maxRecDepth 20000 in
theorem wdX5_init_0 : Cond.methodLink RX5 3 objectInit ∈ wsX5_init := by decide +kernel
set_option maxRecDepth 20000 in
theorem wdX5_init_1 : Cond.instanceMethod objectInit ∈ wsX5_init := by decide +kernel
set_option maxRecDepth 20000 in
theorem wdX5_init_2 : Cond.code objectInit ⟨#[0xb1]⟩ 1 none ∈ wsX5_init := by decide +kernel
set_option maxRecDepth 20000 in
theorem wdX5_init_3 : Cond.fieldLink RX5 9 "AgedLog$Recovery" "drive" "LAgedLog$Disk;" ∈ wsX5_init := by decide +kernel
set_option maxRecDepth 20000 in
theorem wdX5_init_4 : Cond.fieldLink RX5 15 "AgedLog$Recovery" "log" "LAgedLog$Log;" ∈ wsX5_init := by decide +kernel
set_option maxRecDepth 20000 in
theorem wdX5_init_5 : Cond.fieldLink RX5 19 "AgedLog$Recovery" "index" "LAgedLog$Index;" ∈ wsX5_init := by decide +kernel
set_option maxRecDepth 20000 in
theorem wdX5_init_6 : Cond.fieldLink RX5 23 "AgedLog$Recovery" "regions" "LAgedLog$Regions;" ∈ wsX5_init := by decide +kernel
set_option maxRecDepth 20000 in
theorem wdX5_rightLength_0 : Cond.initialized RX7 ∈ wsX5_rightLength := by decide +kernel
set_option maxRecDepth 20000 in
theorem wdX5_rightLength_1 : Cond.static yX7_isOfLog ∈ wsX5_rightLength := by decide +kernel
set_option maxRecDepth 20000 in
theorem wdX5_takeCheckpoint_0 : Cond.fieldLink RX5 15 "AgedLog$Recovery" "log" "LAgedLog$Log;" ∈ wsX5_takeCheckpoint := by decide +kernel
set_option maxRecDepth 20000 in
theorem wdX5_takeCheckpoint_1 : Cond.fieldLink RX5 23 "AgedLog$Recovery" "regions" "LAgedLog$Regions;" ∈ wsX5_takeCheckpoint := by decide +kernel
set_option maxRecDepth 20000 in
theorem wdX5_takeCheckpoint_2 : Cond.fieldLink RX5 19 "AgedLog$Recovery" "index" "LAgedLog$Index;" ∈ wsX5_takeCheckpoint := by decide +kernel
set_option maxRecDepth 20000 in
theorem wdX6_fillRow_0 : Cond.fieldLink RX6 9 "AgedLog$Regions" "row" "[B" ∈ wsX6_fillRow := by decide +kernel
set_option maxRecDepth 20000 in
theorem wdX6_fillRow_1 : Cond.fieldLink RX6 15 "AgedLog$Regions" "number" "I" ∈ wsX6_fillRow := by decide +kernel
set_option maxRecDepth 20000 in
theorem wdX6_fillRow_2 : Cond.fieldLink RX6 26 "AgedLog$Regions" "log" "LAgedLog$Log;" ∈ wsX6_fillRow := by decide +kernel
set_option maxRecDepth 20000 in
theorem wdX6_fillRow_3 : Cond.fieldLink RX6 30 "AgedLog$Regions" "index" "LAgedLog$Index;" ∈ wsX6_fillRow := by decide +kernel
set_option maxRecDepth 20000 in
theorem wdX6_init_0 : Cond.methodLink RX6 3 objectInit ∈ wsX6_init := by decide +kernel
set_option maxRecDepth 20000 in
theorem wdX6_init_1 : Cond.instanceMethod objectInit ∈ wsX6_init := by decide +kernel
set_option maxRecDepth 20000 in
theorem wdX6_init_2 : Cond.code objectInit ⟨#[0xb1]⟩ 1 none ∈ wsX6_init := by decide +kernel
set_option maxRecDepth 20000 in
theorem wdX6_init_3 : Cond.arrayClass .byte ∈ wsX6_init := by decide +kernel
set_option maxRecDepth 20000 in
theorem wdX6_init_4 : Cond.fieldLink RX6 9 "AgedLog$Regions" "row" "[B" ∈ wsX6_init := by decide +kernel
set_option maxRecDepth 20000 in
theorem wdX6_init_5 : Cond.fieldLink RX6 15 "AgedLog$Regions" "number" "I" ∈ wsX6_init := by decide +kernel
set_option maxRecDepth 20000 in
theorem wdX6_init_6 : Cond.fieldLink RX6 19 "AgedLog$Regions" "turn" "I" ∈ wsX6_init := by decide +kernel
set_option maxRecDepth 20000 in
theorem wdX6_init_7 : Cond.fieldLink RX6 22 "AgedLog$Regions" "drive" "LAgedLog$Disk;" ∈ wsX6_init := by decide +kernel
set_option maxRecDepth 20000 in
theorem wdX6_init_8 : Cond.fieldLink RX6 26 "AgedLog$Regions" "log" "LAgedLog$Log;" ∈ wsX6_init := by decide +kernel
set_option maxRecDepth 20000 in
theorem wdX6_init_9 : Cond.fieldLink RX6 30 "AgedLog$Regions" "index" "LAgedLog$Index;" ∈ wsX6_init := by decide +kernel
set_option maxRecDepth 20000 in
theorem wdX6_numberAt_0 : Cond.fieldLink RX6 22 "AgedLog$Regions" "drive" "LAgedLog$Disk;" ∈ wsX6_numberAt := by decide +kernel
set_option maxRecDepth 20000 in
theorem wdX6_setAsAtFirst_0 : Cond.fieldLink RX6 15 "AgedLog$Regions" "number" "I" ∈ wsX6_setAsAtFirst := by decide +kernel
set_option maxRecDepth 20000 in
theorem wdX6_setAsAtFirst_1 : Cond.fieldLink RX6 19 "AgedLog$Regions" "turn" "I" ∈ wsX6_setAsAtFirst := by decide +kernel
set_option maxRecDepth 20000 in
theorem wdX6_write_0 : Cond.fieldLink RX6 22 "AgedLog$Regions" "drive" "LAgedLog$Disk;" ∈ wsX6_write := by decide +kernel
set_option maxRecDepth 20000 in
theorem wdX6_write_1 : Cond.fieldLink RX6 19 "AgedLog$Regions" "turn" "I" ∈ wsX6_write := by decide +kernel
set_option maxRecDepth 20000 in
theorem wdX6_write_2 : Cond.fieldLink RX6 9 "AgedLog$Regions" "row" "[B" ∈ wsX6_write := by decide +kernel
set_option maxRecDepth 20000 in
theorem wdX6_write_3 : Cond.fieldLink RX6 15 "AgedLog$Regions" "number" "I" ∈ wsX6_write := by decide +kernel
set_option maxRecDepth 20000 in
theorem wdX7_checkpoint_0 : Cond.fieldLink RX7 67 "AgedLog" "down" "Z" ∈ wsX7_checkpoint := by decide +kernel
set_option maxRecDepth 20000 in
theorem wdX7_checkpoint_1 : Cond.fieldLink RX7 28 "AgedLog" "log" "LAgedLog$Log;" ∈ wsX7_checkpoint := by decide +kernel
set_option maxRecDepth 20000 in
theorem wdX7_checkpoint_2 : Cond.fieldLink RX7 10 "AgedLog" "drive" "LAgedLog$Disk;" ∈ wsX7_checkpoint := by decide +kernel
set_option maxRecDepth 20000 in
theorem wdX7_checkpoint_3 : Cond.fieldLink RX7 46 "AgedLog" "regions" "LAgedLog$Regions;" ∈ wsX7_checkpoint := by decide +kernel
set_option maxRecDepth 20000 in
theorem wdX7_clean_0 : Cond.fieldLink RX7 67 "AgedLog" "down" "Z" ∈ wsX7_clean := by decide +kernel
set_option maxRecDepth 20000 in
theorem wdX7_clean_1 : Cond.fieldLink RX7 37 "AgedLog" "cleaner" "LAgedLog$Cleaner;" ∈ wsX7_clean := by decide +kernel
set_option maxRecDepth 20000 in
theorem wdX7_cut_0 : Cond.fieldLink RX7 67 "AgedLog" "down" "Z" ∈ wsX7_cut := by decide +kernel
set_option maxRecDepth 20000 in
theorem wdX7_cut_1 : Cond.fieldLink RX7 10 "AgedLog" "drive" "LAgedLog$Disk;" ∈ wsX7_cut := by decide +kernel
set_option maxRecDepth 20000 in
theorem wdX7_disk_0 : Cond.fieldLink RX7 10 "AgedLog" "drive" "LAgedLog$Disk;" ∈ wsX7_disk := by decide +kernel
set_option maxRecDepth 20000 in
theorem wdX7_feed_0 : Cond.fieldLink RX7 63 "AgedLog" "handLength" "I" ∈ wsX7_feed := by decide +kernel
set_option maxRecDepth 20000 in
theorem wdX7_feed_1 : Cond.fieldLink RX7 59 "AgedLog" "hand" "[B" ∈ wsX7_feed := by decide +kernel
set_option maxRecDepth 20000 in
theorem wdX7_init_0 : Cond.methodLink RX7 1 objectInit ∈ wsX7_init := by decide +kernel
set_option maxRecDepth 20000 in
theorem wdX7_init_1 : Cond.instanceMethod objectInit ∈ wsX7_init := by decide +kernel
set_option maxRecDepth 20000 in
theorem wdX7_init_2 : Cond.code objectInit ⟨#[0xb1]⟩ 1 none ∈ wsX7_init := by decide +kernel
set_option maxRecDepth 20000 in
theorem wdX7_init_3 : Cond.classLink RX7 7 RX1 ∈ wsX7_init := by decide +kernel
set_option maxRecDepth 20000 in
theorem wdX7_init_4 : Cond.instantiable RX1 5 ∈ wsX7_init := by decide +kernel
set_option maxRecDepth 20000 in
theorem wdX7_init_5 : Cond.initialized RX1 ∈ wsX7_init := by decide +kernel
set_option maxRecDepth 20000 in
theorem wdX7_init_6 : Cond.instanceMethod yX1_init ∈ wsX7_init := by decide +kernel
set_option maxRecDepth 20000 in
theorem wdX7_init_7 : Cond.fieldLink RX7 10 "AgedLog" "drive" "LAgedLog$Disk;" ∈ wsX7_init := by decide +kernel
set_option maxRecDepth 20000 in
theorem wdX7_init_8 : Cond.classLink RX7 16 RX2 ∈ wsX7_init := by decide +kernel
set_option maxRecDepth 20000 in
theorem wdX7_init_9 : Cond.instantiable RX2 3 ∈ wsX7_init := by decide +kernel
set_option maxRecDepth 20000 in
theorem wdX7_init_10 : Cond.initialized RX2 ∈ wsX7_init := by decide +kernel
set_option maxRecDepth 20000 in
theorem wdX7_init_11 : Cond.instanceMethod yX2_init ∈ wsX7_init := by decide +kernel
set_option maxRecDepth 20000 in
theorem wdX7_init_12 : Cond.fieldLink RX7 19 "AgedLog" "index" "LAgedLog$Index;" ∈ wsX7_init := by decide +kernel
set_option maxRecDepth 20000 in
theorem wdX7_init_13 : Cond.classLink RX7 23 RX3 ∈ wsX7_init := by decide +kernel
set_option maxRecDepth 20000 in
theorem wdX7_init_14 : Cond.instantiable RX3 14 ∈ wsX7_init := by decide +kernel
set_option maxRecDepth 20000 in
theorem wdX7_init_15 : Cond.initialized RX3 ∈ wsX7_init := by decide +kernel
set_option maxRecDepth 20000 in
theorem wdX7_init_16 : Cond.methodLink RX7 25 yX3_init ∈ wsX7_init := by decide +kernel
set_option maxRecDepth 20000 in
theorem wdX7_init_17 : Cond.instanceMethod yX3_init ∈ wsX7_init := by decide +kernel
set_option maxRecDepth 20000 in
theorem wdX7_init_18 : Cond.fieldLink RX7 28 "AgedLog" "log" "LAgedLog$Log;" ∈ wsX7_init := by decide +kernel
set_option maxRecDepth 20000 in
theorem wdX7_init_19 : Cond.classLink RX7 32 RX0 ∈ wsX7_init := by decide +kernel
set_option maxRecDepth 20000 in
theorem wdX7_init_20 : Cond.instantiable RX0 6 ∈ wsX7_init := by decide +kernel
set_option maxRecDepth 20000 in
theorem wdX7_init_21 : Cond.initialized RX0 ∈ wsX7_init := by decide +kernel
set_option maxRecDepth 20000 in
theorem wdX7_init_22 : Cond.methodLink RX7 34 yX0_init ∈ wsX7_init := by decide +kernel
set_option maxRecDepth 20000 in
theorem wdX7_init_23 : Cond.instanceMethod yX0_init ∈ wsX7_init := by decide +kernel
set_option maxRecDepth 20000 in
theorem wdX7_init_24 : Cond.fieldLink RX7 37 "AgedLog" "cleaner" "LAgedLog$Cleaner;" ∈ wsX7_init := by decide +kernel
set_option maxRecDepth 20000 in
theorem wdX7_init_25 : Cond.classLink RX7 41 RX6 ∈ wsX7_init := by decide +kernel
set_option maxRecDepth 20000 in
theorem wdX7_init_26 : Cond.instantiable RX6 6 ∈ wsX7_init := by decide +kernel
set_option maxRecDepth 20000 in
theorem wdX7_init_27 : Cond.initialized RX6 ∈ wsX7_init := by decide +kernel
set_option maxRecDepth 20000 in
theorem wdX7_init_28 : Cond.methodLink RX7 43 yX6_init ∈ wsX7_init := by decide +kernel
set_option maxRecDepth 20000 in
theorem wdX7_init_29 : Cond.instanceMethod yX6_init ∈ wsX7_init := by decide +kernel
set_option maxRecDepth 20000 in
theorem wdX7_init_30 : Cond.fieldLink RX7 46 "AgedLog" "regions" "LAgedLog$Regions;" ∈ wsX7_init := by decide +kernel
set_option maxRecDepth 20000 in
theorem wdX7_init_31 : Cond.classLink RX7 50 RX5 ∈ wsX7_init := by decide +kernel
set_option maxRecDepth 20000 in
theorem wdX7_init_32 : Cond.instantiable RX5 4 ∈ wsX7_init := by decide +kernel
set_option maxRecDepth 20000 in
theorem wdX7_init_33 : Cond.initialized RX5 ∈ wsX7_init := by decide +kernel
set_option maxRecDepth 20000 in
theorem wdX7_init_34 : Cond.methodLink RX7 52 yX5_init ∈ wsX7_init := by decide +kernel
set_option maxRecDepth 20000 in
theorem wdX7_init_35 : Cond.instanceMethod yX5_init ∈ wsX7_init := by decide +kernel
set_option maxRecDepth 20000 in
theorem wdX7_init_36 : Cond.fieldLink RX7 55 "AgedLog" "recovery" "LAgedLog$Recovery;" ∈ wsX7_init := by decide +kernel
set_option maxRecDepth 20000 in
theorem wdX7_init_37 : Cond.arrayClass .byte ∈ wsX7_init := by decide +kernel
set_option maxRecDepth 20000 in
theorem wdX7_init_38 : Cond.fieldLink RX7 59 "AgedLog" "hand" "[B" ∈ wsX7_init := by decide +kernel
set_option maxRecDepth 20000 in
theorem wdX7_init_39 : Cond.fieldLink RX7 63 "AgedLog" "handLength" "I" ∈ wsX7_init := by decide +kernel
set_option maxRecDepth 20000 in
theorem wdX7_init_40 : Cond.fieldLink RX7 67 "AgedLog" "down" "Z" ∈ wsX7_init := by decide +kernel
set_option maxRecDepth 20000 in
theorem wdX7_poke_0 : Cond.fieldLink RX7 10 "AgedLog" "drive" "LAgedLog$Disk;" ∈ wsX7_poke := by decide +kernel
set_option maxRecDepth 20000 in
theorem wdX7_put_0 : Cond.fieldLink RX7 67 "AgedLog" "down" "Z" ∈ wsX7_put := by decide +kernel
set_option maxRecDepth 20000 in
theorem wdX7_put_1 : Cond.fieldLink RX7 28 "AgedLog" "log" "LAgedLog$Log;" ∈ wsX7_put := by decide +kernel
set_option maxRecDepth 20000 in
theorem wdX7_put_2 : Cond.fieldLink RX7 63 "AgedLog" "handLength" "I" ∈ wsX7_put := by decide +kernel
set_option maxRecDepth 20000 in
theorem wdX7_put_3 : Cond.fieldLink RX7 59 "AgedLog" "hand" "[B" ∈ wsX7_put := by decide +kernel
set_option maxRecDepth 20000 in
theorem wdX7_remove_0 : Cond.fieldLink RX7 67 "AgedLog" "down" "Z" ∈ wsX7_remove := by decide +kernel
set_option maxRecDepth 20000 in
theorem wdX7_remove_1 : Cond.fieldLink RX7 19 "AgedLog" "index" "LAgedLog$Index;" ∈ wsX7_remove := by decide +kernel
set_option maxRecDepth 20000 in
theorem wdX7_segment_0 : Cond.fieldLink RX7 67 "AgedLog" "down" "Z" ∈ wsX7_segment := by decide +kernel
set_option maxRecDepth 20000 in
theorem wdX7_segment_1 : Cond.fieldLink RX7 28 "AgedLog" "log" "LAgedLog$Log;" ∈ wsX7_segment := by decide +kernel
set_option maxRecDepth 20000 in
theorem wdX7_size_0 : Cond.fieldLink RX7 67 "AgedLog" "down" "Z" ∈ wsX7_size := by decide +kernel
set_option maxRecDepth 20000 in
theorem wdX7_size_1 : Cond.fieldLink RX7 19 "AgedLog" "index" "LAgedLog$Index;" ∈ wsX7_size := by decide +kernel
set_option maxRecDepth 20000 in
theorem wdX7_start_0 : Cond.fieldLink RX7 10 "AgedLog" "drive" "LAgedLog$Disk;" ∈ wsX7_start := by decide +kernel
set_option maxRecDepth 20000 in
theorem wdX7_start_1 : Cond.fieldLink RX7 67 "AgedLog" "down" "Z" ∈ wsX7_start := by decide +kernel
set_option maxRecDepth 20000 in
theorem wdX7_start_2 : Cond.fieldLink RX7 55 "AgedLog" "recovery" "LAgedLog$Recovery;" ∈ wsX7_start := by decide +kernel
set_option maxRecDepth 20000 in
theorem wdX7_sync_0 : Cond.fieldLink RX7 67 "AgedLog" "down" "Z" ∈ wsX7_sync := by decide +kernel
set_option maxRecDepth 20000 in
theorem wdX7_sync_1 : Cond.fieldLink RX7 28 "AgedLog" "log" "LAgedLog$Log;" ∈ wsX7_sync := by decide +kernel
set_option maxRecDepth 20000 in
theorem wdX7_sync_2 : Cond.fieldLink RX7 10 "AgedLog" "drive" "LAgedLog$Disk;" ∈ wsX7_sync := by decide +kernel
set_option maxRecDepth 20000 in
theorem wdX7_tick_0 : Cond.fieldLink RX7 67 "AgedLog" "down" "Z" ∈ wsX7_tick := by decide +kernel
set_option maxRecDepth 20000 in
theorem wdX7_tick_1 : Cond.constant RX7 120 100000 ∈ wsX7_tick := by decide +kernel
set_option maxRecDepth 20000 in
theorem wdX7_tick_2 : Cond.fieldLink RX7 28 "AgedLog" "log" "LAgedLog$Log;" ∈ wsX7_tick := by decide +kernel
set_option maxRecDepth 20000 in
theorem wdX7_told_0 : Cond.fieldLink RX7 67 "AgedLog" "down" "Z" ∈ wsX7_told := by decide +kernel
set_option maxRecDepth 20000 in
theorem wdX7_told_1 : Cond.fieldLink RX7 10 "AgedLog" "drive" "LAgedLog$Disk;" ∈ wsX7_told := by decide +kernel
set_option maxRecDepth 20000 in
theorem wdX7_toldWhileUp_0 : Cond.fieldLink RX7 28 "AgedLog" "log" "LAgedLog$Log;" ∈ wsX7_toldWhileUp := by decide +kernel
set_option maxRecDepth 20000 in
theorem wdX7_toldWhileUp_1 : Cond.fieldLink RX7 19 "AgedLog" "index" "LAgedLog$Index;" ∈ wsX7_toldWhileUp := by decide +kernel
set_option maxRecDepth 20000 in
theorem wdX7_toldWhileUp_2 : Cond.fieldLink RX7 46 "AgedLog" "regions" "LAgedLog$Regions;" ∈ wsX7_toldWhileUp := by decide +kernel
set_option maxRecDepth 20000 in
theorem wdX7_value_0 : Cond.fieldLink RX7 67 "AgedLog" "down" "Z" ∈ wsX7_value := by decide +kernel
set_option maxRecDepth 20000 in
theorem wdX7_value_1 : Cond.fieldLink RX7 19 "AgedLog" "index" "LAgedLog$Index;" ∈ wsX7_value := by decide +kernel
set_option maxRecDepth 20000 in
theorem wdX7_where_0 : Cond.fieldLink RX7 67 "AgedLog" "down" "Z" ∈ wsX7_where := by decide +kernel
set_option maxRecDepth 20000 in
theorem wdX7_where_1 : Cond.fieldLink RX7 19 "AgedLog" "index" "LAgedLog$Index;" ∈ wsX7_where := by decide +kernel
set_option maxRecDepth 20000 in
theorem wdX8_best_0 : Cond.fieldLink RX8 21 "AgedLogModel" "state" "[I" ∈ wsX8_best := by decide +kernel
set_option maxRecDepth 20000 in
theorem wdX8_came_0 : Cond.fieldLink RX8 104 "AgedLogModel" "dirty" "I" ∈ wsX8_came := by decide +kernel
set_option maxRecDepth 20000 in
theorem wdX8_came_1 : Cond.fieldLink RX8 35 "AgedLogModel" "dSegment" "[I" ∈ wsX8_came := by decide +kernel
set_option maxRecDepth 20000 in
theorem wdX8_came_2 : Cond.fieldLink RX8 38 "AgedLogModel" "dFrom" "[I" ∈ wsX8_came := by decide +kernel
set_option maxRecDepth 20000 in
theorem wdX8_came_3 : Cond.fieldLink RX8 41 "AgedLogModel" "dTo" "[I" ∈ wsX8_came := by decide +kernel
set_option maxRecDepth 20000 in
theorem wdX8_checkpoint_0 : Cond.fieldLink RX8 65 "AgedLogModel" "code" "I" ∈ wsX8_checkpoint := by decide +kernel
set_option maxRecDepth 20000 in
theorem wdX8_checkpoint_1 : Cond.fieldLink RX8 132 "AgedLogModel" "down" "Z" ∈ wsX8_checkpoint := by decide +kernel
set_option maxRecDepth 20000 in
theorem wdX8_checkpoint_2 : Cond.fieldLink RX8 69 "AgedLogModel" "size" "I" ∈ wsX8_checkpoint := by decide +kernel
set_option maxRecDepth 20000 in
theorem wdX8_checkpoint_3 : Cond.fieldLink RX8 166 "AgedLogModel" "number" "I" ∈ wsX8_checkpoint := by decide +kernel
set_option maxRecDepth 20000 in
theorem wdX8_checkpoint_4 : Cond.fieldLink RX8 25 "AgedLogModel" "sequence" "I" ∈ wsX8_checkpoint := by decide +kernel
set_option maxRecDepth 20000 in
theorem wdX8_checkpoint_5 : Cond.fieldLink RX8 140 "AgedLogModel" "clock" "I" ∈ wsX8_checkpoint := by decide +kernel
set_option maxRecDepth 20000 in
theorem wdX8_checkpoint_6 : Cond.fieldLink RX8 87 "AgedLogModel" "open" "I" ∈ wsX8_checkpoint := by decide +kernel
set_option maxRecDepth 20000 in
theorem wdX8_checkpoint_7 : Cond.fieldLink RX8 107 "AgedLogModel" "order" "I" ∈ wsX8_checkpoint := by decide +kernel
set_option maxRecDepth 20000 in
theorem wdX8_checkpoint_8 : Cond.fieldLink RX8 47 "AgedLogModel" "made" "[B" ∈ wsX8_checkpoint := by decide +kernel
set_option maxRecDepth 20000 in
theorem wdX8_checkpoint_9 : Cond.fieldLink RX8 62 "AgedLogModel" "turn" "I" ∈ wsX8_checkpoint := by decide +kernel
set_option maxRecDepth 20000 in
theorem wdX8_checkpoint_10 : Cond.fieldLink RX8 21 "AgedLogModel" "state" "[I" ∈ wsX8_checkpoint := by decide +kernel
set_option maxRecDepth 20000 in
theorem wdX8_checkpoint_11 : Cond.fieldLink RX8 29 "AgedLogModel" "kSegment" "[I" ∈ wsX8_checkpoint := by decide +kernel
set_option maxRecDepth 20000 in
theorem wdX8_clean_0 : Cond.fieldLink RX8 65 "AgedLogModel" "code" "I" ∈ wsX8_clean := by decide +kernel
set_option maxRecDepth 20000 in
theorem wdX8_clean_1 : Cond.fieldLink RX8 132 "AgedLogModel" "down" "Z" ∈ wsX8_clean := by decide +kernel
set_option maxRecDepth 20000 in
theorem wdX8_clean_2 : Cond.fieldLink RX8 87 "AgedLogModel" "open" "I" ∈ wsX8_clean := by decide +kernel
set_option maxRecDepth 20000 in
theorem wdX8_clean_3 : Cond.fieldLink RX8 21 "AgedLogModel" "state" "[I" ∈ wsX8_clean := by decide +kernel
set_option maxRecDepth 20000 in
theorem wdX8_clean_4 : Cond.fieldLink RX8 56 "AgedLogModel" "taken" "[Z" ∈ wsX8_clean := by decide +kernel
set_option maxRecDepth 20000 in
theorem wdX8_clean_5 : Cond.fieldLink RX8 29 "AgedLogModel" "kSegment" "[I" ∈ wsX8_clean := by decide +kernel
set_option maxRecDepth 20000 in
theorem wdX8_cut_0 : Cond.fieldLink RX8 65 "AgedLogModel" "code" "I" ∈ wsX8_cut := by decide +kernel
set_option maxRecDepth 20000 in
theorem wdX8_cut_1 : Cond.fieldLink RX8 132 "AgedLogModel" "down" "Z" ∈ wsX8_cut := by decide +kernel
set_option maxRecDepth 20000 in
theorem wdX8_cut_2 : Cond.fieldLink RX8 150 "AgedLogModel" "cutAt" "I" ∈ wsX8_cut := by decide +kernel
set_option maxRecDepth 20000 in
theorem wdX8_cut_3 : Cond.fieldLink RX8 156 "AgedLogModel" "cutFirst" "I" ∈ wsX8_cut := by decide +kernel
set_option maxRecDepth 20000 in
theorem wdX8_disk_0 : Cond.fieldLink RX8 65 "AgedLogModel" "code" "I" ∈ wsX8_disk := by decide +kernel
set_option maxRecDepth 20000 in
theorem wdX8_disk_1 : Cond.fieldLink RX8 8 "AgedLogModel" "disk" "[B" ∈ wsX8_disk := by decide +kernel
set_option maxRecDepth 20000 in
theorem wdX8_feed_0 : Cond.fieldLink RX8 65 "AgedLogModel" "code" "I" ∈ wsX8_feed := by decide +kernel
set_option maxRecDepth 20000 in
theorem wdX8_feed_1 : Cond.fieldLink RX8 129 "AgedLogModel" "handSize" "I" ∈ wsX8_feed := by decide +kernel
set_option maxRecDepth 20000 in
theorem wdX8_feed_2 : Cond.fieldLink RX8 44 "AgedLogModel" "hand" "[B" ∈ wsX8_feed := by decide +kernel
set_option maxRecDepth 20000 in
theorem wdX8_frees_0 : Cond.fieldLink RX8 21 "AgedLogModel" "state" "[I" ∈ wsX8_frees := by decide +kernel
set_option maxRecDepth 20000 in
theorem wdX8_goesOn_0 : Cond.fieldLink RX8 21 "AgedLogModel" "state" "[I" ∈ wsX8_goesOn := by decide +kernel
set_option maxRecDepth 20000 in
theorem wdX8_goesOn_1 : Cond.fieldLink RX8 14 "AgedLogModel" "memory" "[B" ∈ wsX8_goesOn := by decide +kernel
set_option maxRecDepth 20000 in
theorem wdX8_init_0 : Cond.methodLink RX8 1 objectInit ∈ wsX8_init := by decide +kernel
set_option maxRecDepth 20000 in
theorem wdX8_init_1 : Cond.instanceMethod objectInit ∈ wsX8_init := by decide +kernel
set_option maxRecDepth 20000 in
theorem wdX8_init_2 : Cond.code objectInit ⟨#[0xb1]⟩ 1 none ∈ wsX8_init := by decide +kernel
set_option maxRecDepth 20000 in
theorem wdX8_init_3 : Cond.constant RX8 7 65536 ∈ wsX8_init := by decide +kernel
set_option maxRecDepth 20000 in
theorem wdX8_init_4 : Cond.arrayClass .byte ∈ wsX8_init := by decide +kernel
set_option maxRecDepth 20000 in
theorem wdX8_init_5 : Cond.fieldLink RX8 8 "AgedLogModel" "disk" "[B" ∈ wsX8_init := by decide +kernel
set_option maxRecDepth 20000 in
theorem wdX8_init_6 : Cond.fieldLink RX8 14 "AgedLogModel" "memory" "[B" ∈ wsX8_init := by decide +kernel
set_option maxRecDepth 20000 in
theorem wdX8_init_7 : Cond.arrayClass .boolean ∈ wsX8_init := by decide +kernel
set_option maxRecDepth 20000 in
theorem wdX8_init_8 : Cond.fieldLink RX8 17 "AgedLogModel" "torn" "[Z" ∈ wsX8_init := by decide +kernel
set_option maxRecDepth 20000 in
theorem wdX8_init_9 : Cond.arrayClass .int ∈ wsX8_init := by decide +kernel
set_option maxRecDepth 20000 in
theorem wdX8_init_10 : Cond.fieldLink RX8 21 "AgedLogModel" "state" "[I" ∈ wsX8_init := by decide +kernel
set_option maxRecDepth 20000 in
theorem wdX8_init_11 : Cond.fieldLink RX8 25 "AgedLogModel" "sequence" "I" ∈ wsX8_init := by decide +kernel
set_option maxRecDepth 20000 in
theorem wdX8_init_12 : Cond.fieldLink RX8 29 "AgedLogModel" "kSegment" "[I" ∈ wsX8_init := by decide +kernel
set_option maxRecDepth 20000 in
theorem wdX8_init_13 : Cond.fieldLink RX8 32 "AgedLogModel" "kAt" "[I" ∈ wsX8_init := by decide +kernel
set_option maxRecDepth 20000 in
theorem wdX8_init_14 : Cond.fieldLink RX8 35 "AgedLogModel" "dSegment" "[I" ∈ wsX8_init := by decide +kernel
set_option maxRecDepth 20000 in
theorem wdX8_init_15 : Cond.fieldLink RX8 38 "AgedLogModel" "dFrom" "[I" ∈ wsX8_init := by decide +kernel
set_option maxRecDepth 20000 in
theorem wdX8_init_16 : Cond.fieldLink RX8 41 "AgedLogModel" "dTo" "[I" ∈ wsX8_init := by decide +kernel
set_option maxRecDepth 20000 in
theorem wdX8_init_17 : Cond.fieldLink RX8 44 "AgedLogModel" "hand" "[B" ∈ wsX8_init := by decide +kernel
set_option maxRecDepth 20000 in
theorem wdX8_init_18 : Cond.fieldLink RX8 47 "AgedLogModel" "made" "[B" ∈ wsX8_init := by decide +kernel
set_option maxRecDepth 20000 in
theorem wdX8_init_19 : Cond.fieldLink RX8 50 "AgedLogModel" "young" "[I" ∈ wsX8_init := by decide +kernel
set_option maxRecDepth 20000 in
theorem wdX8_init_20 : Cond.fieldLink RX8 53 "AgedLogModel" "value" "[B" ∈ wsX8_init := by decide +kernel
set_option maxRecDepth 20000 in
theorem wdX8_init_21 : Cond.fieldLink RX8 56 "AgedLogModel" "taken" "[Z" ∈ wsX8_init := by decide +kernel
set_option maxRecDepth 20000 in
theorem wdX8_init_22 : Cond.fieldLink RX8 59 "AgedLogModel" "sorted" "[I" ∈ wsX8_init := by decide +kernel
set_option maxRecDepth 20000 in
theorem wdX8_init_23 : Cond.fieldLink RX8 62 "AgedLogModel" "turn" "I" ∈ wsX8_init := by decide +kernel
set_option maxRecDepth 20000 in
theorem wdX8_isRight_0 : Cond.fieldLink RX8 8 "AgedLogModel" "disk" "[B" ∈ wsX8_isRight := by decide +kernel
set_option maxRecDepth 20000 in
theorem wdX8_keys_0 : Cond.fieldLink RX8 29 "AgedLogModel" "kSegment" "[I" ∈ wsX8_keys := by decide +kernel
set_option maxRecDepth 20000 in
theorem wdX8_none_0 : Cond.fieldLink RX8 29 "AgedLogModel" "kSegment" "[I" ∈ wsX8_none := by decide +kernel
set_option maxRecDepth 20000 in
theorem wdX8_octets_0 : Cond.fieldLink RX8 47 "AgedLogModel" "made" "[B" ∈ wsX8_octets := by decide +kernel
set_option maxRecDepth 20000 in
theorem wdX8_octets_1 : Cond.fieldLink RX8 69 "AgedLogModel" "size" "I" ∈ wsX8_octets := by decide +kernel
set_option maxRecDepth 20000 in
theorem wdX8_openNext_0 : Cond.fieldLink RX8 21 "AgedLogModel" "state" "[I" ∈ wsX8_openNext := by decide +kernel
set_option maxRecDepth 20000 in
theorem wdX8_openNext_1 : Cond.fieldLink RX8 87 "AgedLogModel" "open" "I" ∈ wsX8_openNext := by decide +kernel
set_option maxRecDepth 20000 in
theorem wdX8_openNext_2 : Cond.fieldLink RX8 107 "AgedLogModel" "order" "I" ∈ wsX8_openNext := by decide +kernel
set_option maxRecDepth 20000 in
theorem wdX8_openNext_3 : Cond.fieldLink RX8 69 "AgedLogModel" "size" "I" ∈ wsX8_openNext := by decide +kernel
set_option maxRecDepth 20000 in
theorem wdX8_openNext_4 : Cond.fieldLink RX8 47 "AgedLogModel" "made" "[B" ∈ wsX8_openNext := by decide +kernel
set_option maxRecDepth 20000 in
theorem wdX8_openNext_5 : Cond.fieldLink RX8 90 "AgedLogModel" "place" "I" ∈ wsX8_openNext := by decide +kernel
set_option maxRecDepth 20000 in
theorem wdX8_openNext_6 : Cond.fieldLink RX8 50 "AgedLogModel" "young" "[I" ∈ wsX8_openNext := by decide +kernel
set_option maxRecDepth 20000 in
theorem wdX8_openNext_7 : Cond.fieldLink RX8 14 "AgedLogModel" "memory" "[B" ∈ wsX8_openNext := by decide +kernel
set_option maxRecDepth 20000 in
theorem wdX8_opens_0 : Cond.fieldLink RX8 87 "AgedLogModel" "open" "I" ∈ wsX8_opens := by decide +kernel
set_option maxRecDepth 20000 in
theorem wdX8_poke_0 : Cond.fieldLink RX8 65 "AgedLogModel" "code" "I" ∈ wsX8_poke := by decide +kernel
set_option maxRecDepth 20000 in
theorem wdX8_poke_1 : Cond.fieldLink RX8 8 "AgedLogModel" "disk" "[B" ∈ wsX8_poke := by decide +kernel
set_option maxRecDepth 20000 in
theorem wdX8_put_0 : Cond.fieldLink RX8 65 "AgedLogModel" "code" "I" ∈ wsX8_put := by decide +kernel
set_option maxRecDepth 20000 in
theorem wdX8_put_1 : Cond.fieldLink RX8 132 "AgedLogModel" "down" "Z" ∈ wsX8_put := by decide +kernel
set_option maxRecDepth 20000 in
theorem wdX8_put_2 : Cond.fieldLink RX8 129 "AgedLogModel" "handSize" "I" ∈ wsX8_put := by decide +kernel
set_option maxRecDepth 20000 in
theorem wdX8_put_3 : Cond.fieldLink RX8 140 "AgedLogModel" "clock" "I" ∈ wsX8_put := by decide +kernel
set_option maxRecDepth 20000 in
theorem wdX8_put_4 : Cond.fieldLink RX8 25 "AgedLogModel" "sequence" "I" ∈ wsX8_put := by decide +kernel
set_option maxRecDepth 20000 in
theorem wdX8_record_0 : Cond.fieldLink RX8 69 "AgedLogModel" "size" "I" ∈ wsX8_record := by decide +kernel
set_option maxRecDepth 20000 in
theorem wdX8_record_1 : Cond.fieldLink RX8 25 "AgedLogModel" "sequence" "I" ∈ wsX8_record := by decide +kernel
set_option maxRecDepth 20000 in
theorem wdX8_record_2 : Cond.fieldLink RX8 47 "AgedLogModel" "made" "[B" ∈ wsX8_record := by decide +kernel
set_option maxRecDepth 20000 in
theorem wdX8_record_3 : Cond.fieldLink RX8 29 "AgedLogModel" "kSegment" "[I" ∈ wsX8_record := by decide +kernel
set_option maxRecDepth 20000 in
theorem wdX8_record_4 : Cond.fieldLink RX8 87 "AgedLogModel" "open" "I" ∈ wsX8_record := by decide +kernel
set_option maxRecDepth 20000 in
theorem wdX8_record_5 : Cond.fieldLink RX8 32 "AgedLogModel" "kAt" "[I" ∈ wsX8_record := by decide +kernel
set_option maxRecDepth 20000 in
theorem wdX8_record_6 : Cond.fieldLink RX8 90 "AgedLogModel" "place" "I" ∈ wsX8_record := by decide +kernel
set_option maxRecDepth 20000 in
theorem wdX8_record_7 : Cond.fieldLink RX8 50 "AgedLogModel" "young" "[I" ∈ wsX8_record := by decide +kernel
set_option maxRecDepth 20000 in
theorem wdX8_record_8 : Cond.fieldLink RX8 14 "AgedLogModel" "memory" "[B" ∈ wsX8_record := by decide +kernel
set_option maxRecDepth 20000 in
theorem wdX8_remove_0 : Cond.fieldLink RX8 65 "AgedLogModel" "code" "I" ∈ wsX8_remove := by decide +kernel
set_option maxRecDepth 20000 in
theorem wdX8_remove_1 : Cond.fieldLink RX8 132 "AgedLogModel" "down" "Z" ∈ wsX8_remove := by decide +kernel
set_option maxRecDepth 20000 in
theorem wdX8_segment_0 : Cond.fieldLink RX8 65 "AgedLogModel" "code" "I" ∈ wsX8_segment := by decide +kernel
set_option maxRecDepth 20000 in
theorem wdX8_segment_1 : Cond.fieldLink RX8 132 "AgedLogModel" "down" "Z" ∈ wsX8_segment := by decide +kernel
set_option maxRecDepth 20000 in
theorem wdX8_segment_2 : Cond.fieldLink RX8 21 "AgedLogModel" "state" "[I" ∈ wsX8_segment := by decide +kernel
set_option maxRecDepth 20000 in
theorem wdX8_size_0 : Cond.fieldLink RX8 65 "AgedLogModel" "code" "I" ∈ wsX8_size := by decide +kernel
set_option maxRecDepth 20000 in
theorem wdX8_size_1 : Cond.fieldLink RX8 132 "AgedLogModel" "down" "Z" ∈ wsX8_size := by decide +kernel
set_option maxRecDepth 20000 in
theorem wdX8_start_0 : Cond.fieldLink RX8 65 "AgedLogModel" "code" "I" ∈ wsX8_start := by decide +kernel
set_option maxRecDepth 20000 in
theorem wdX8_start_1 : Cond.fieldLink RX8 132 "AgedLogModel" "down" "Z" ∈ wsX8_start := by decide +kernel
set_option maxRecDepth 20000 in
theorem wdX8_start_2 : Cond.fieldLink RX8 150 "AgedLogModel" "cutAt" "I" ∈ wsX8_start := by decide +kernel
set_option maxRecDepth 20000 in
theorem wdX8_start_3 : Cond.fieldLink RX8 104 "AgedLogModel" "dirty" "I" ∈ wsX8_start := by decide +kernel
set_option maxRecDepth 20000 in
theorem wdX8_start_4 : Cond.constant RX8 7 65536 ∈ wsX8_start := by decide +kernel
set_option maxRecDepth 20000 in
theorem wdX8_start_5 : Cond.fieldLink RX8 87 "AgedLogModel" "open" "I" ∈ wsX8_start := by decide +kernel
set_option maxRecDepth 20000 in
theorem wdX8_start_6 : Cond.fieldLink RX8 90 "AgedLogModel" "place" "I" ∈ wsX8_start := by decide +kernel
set_option maxRecDepth 20000 in
theorem wdX8_start_7 : Cond.fieldLink RX8 107 "AgedLogModel" "order" "I" ∈ wsX8_start := by decide +kernel
set_option maxRecDepth 20000 in
theorem wdX8_start_8 : Cond.fieldLink RX8 25 "AgedLogModel" "sequence" "I" ∈ wsX8_start := by decide +kernel
set_option maxRecDepth 20000 in
theorem wdX8_start_9 : Cond.fieldLink RX8 140 "AgedLogModel" "clock" "I" ∈ wsX8_start := by decide +kernel
set_option maxRecDepth 20000 in
theorem wdX8_start_10 : Cond.fieldLink RX8 166 "AgedLogModel" "number" "I" ∈ wsX8_start := by decide +kernel
set_option maxRecDepth 20000 in
theorem wdX8_start_11 : Cond.fieldLink RX8 62 "AgedLogModel" "turn" "I" ∈ wsX8_start := by decide +kernel
set_option maxRecDepth 20000 in
theorem wdX8_start_12 : Cond.fieldLink RX8 50 "AgedLogModel" "young" "[I" ∈ wsX8_start := by decide +kernel
set_option maxRecDepth 20000 in
theorem wdX8_start_13 : Cond.fieldLink RX8 21 "AgedLogModel" "state" "[I" ∈ wsX8_start := by decide +kernel
set_option maxRecDepth 20000 in
theorem wdX8_start_14 : Cond.fieldLink RX8 29 "AgedLogModel" "kSegment" "[I" ∈ wsX8_start := by decide +kernel
set_option maxRecDepth 20000 in
theorem wdX8_start_15 : Cond.fieldLink RX8 14 "AgedLogModel" "memory" "[B" ∈ wsX8_start := by decide +kernel
set_option maxRecDepth 20000 in
theorem wdX8_start_16 : Cond.fieldLink RX8 8 "AgedLogModel" "disk" "[B" ∈ wsX8_start := by decide +kernel
set_option maxRecDepth 20000 in
theorem wdX8_sum_0 : Cond.constant RX8 68 (-1640531535) ∈ wsX8_sum := by decide +kernel
set_option maxRecDepth 20000 in
theorem wdX8_sync_0 : Cond.fieldLink RX8 65 "AgedLogModel" "code" "I" ∈ wsX8_sync := by decide +kernel
set_option maxRecDepth 20000 in
theorem wdX8_sync_1 : Cond.fieldLink RX8 132 "AgedLogModel" "down" "Z" ∈ wsX8_sync := by decide +kernel
set_option maxRecDepth 20000 in
theorem wdX8_syncAll_0 : Cond.fieldLink RX8 104 "AgedLogModel" "dirty" "I" ∈ wsX8_syncAll := by decide +kernel
set_option maxRecDepth 20000 in
theorem wdX8_tick_0 : Cond.fieldLink RX8 65 "AgedLogModel" "code" "I" ∈ wsX8_tick := by decide +kernel
set_option maxRecDepth 20000 in
theorem wdX8_tick_1 : Cond.fieldLink RX8 132 "AgedLogModel" "down" "Z" ∈ wsX8_tick := by decide +kernel
set_option maxRecDepth 20000 in
theorem wdX8_tick_2 : Cond.constant RX8 185 100000 ∈ wsX8_tick := by decide +kernel
set_option maxRecDepth 20000 in
theorem wdX8_tick_3 : Cond.fieldLink RX8 140 "AgedLogModel" "clock" "I" ∈ wsX8_tick := by decide +kernel
set_option maxRecDepth 20000 in
theorem wdX8_told_0 : Cond.fieldLink RX8 65 "AgedLogModel" "code" "I" ∈ wsX8_told := by decide +kernel
set_option maxRecDepth 20000 in
theorem wdX8_told_1 : Cond.fieldLink RX8 132 "AgedLogModel" "down" "Z" ∈ wsX8_told := by decide +kernel
set_option maxRecDepth 20000 in
theorem wdX8_told_2 : Cond.fieldLink RX8 25 "AgedLogModel" "sequence" "I" ∈ wsX8_told := by decide +kernel
set_option maxRecDepth 20000 in
theorem wdX8_told_3 : Cond.fieldLink RX8 140 "AgedLogModel" "clock" "I" ∈ wsX8_told := by decide +kernel
set_option maxRecDepth 20000 in
theorem wdX8_told_4 : Cond.fieldLink RX8 87 "AgedLogModel" "open" "I" ∈ wsX8_told := by decide +kernel
set_option maxRecDepth 20000 in
theorem wdX8_told_5 : Cond.fieldLink RX8 104 "AgedLogModel" "dirty" "I" ∈ wsX8_told := by decide +kernel
set_option maxRecDepth 20000 in
theorem wdX8_told_6 : Cond.fieldLink RX8 166 "AgedLogModel" "number" "I" ∈ wsX8_told := by decide +kernel
set_option maxRecDepth 20000 in
theorem wdX8_told_7 : Cond.fieldLink RX8 153 "AgedLogModel" "sectors" "I" ∈ wsX8_told := by decide +kernel
set_option maxRecDepth 20000 in
theorem wdX8_value_0 : Cond.fieldLink RX8 65 "AgedLogModel" "code" "I" ∈ wsX8_value := by decide +kernel
set_option maxRecDepth 20000 in
theorem wdX8_value_1 : Cond.fieldLink RX8 132 "AgedLogModel" "down" "Z" ∈ wsX8_value := by decide +kernel
set_option maxRecDepth 20000 in
theorem wdX8_where_0 : Cond.fieldLink RX8 65 "AgedLogModel" "code" "I" ∈ wsX8_where := by decide +kernel
set_option maxRecDepth 20000 in
theorem wdX8_where_1 : Cond.fieldLink RX8 132 "AgedLogModel" "down" "Z" ∈ wsX8_where := by decide +kernel
set_option maxRecDepth 20000 in
theorem wdX8_write_0 : Cond.fieldLink RX8 150 "AgedLogModel" "cutAt" "I" ∈ wsX8_write := by decide +kernel
set_option maxRecDepth 20000 in
theorem wdX8_write_1 : Cond.fieldLink RX8 153 "AgedLogModel" "sectors" "I" ∈ wsX8_write := by decide +kernel
set_option maxRecDepth 20000 in
theorem wdX8_write_2 : Cond.fieldLink RX8 132 "AgedLogModel" "down" "Z" ∈ wsX8_write := by decide +kernel
set_option maxRecDepth 20000 in
theorem wdX8_write_3 : Cond.fieldLink RX8 17 "AgedLogModel" "torn" "[Z" ∈ wsX8_write := by decide +kernel
set_option maxRecDepth 20000 in
theorem wdX8_write_4 : Cond.fieldLink RX8 8 "AgedLogModel" "disk" "[B" ∈ wsX8_write := by decide +kernel
theorem dvX0 : ∀ j, j < 6 → defaultValue (tyX0 j) = vp_V [.null, .null, .null, .null, .null, .int 0] j := by
  intro j hj
  rcases (show j = 0 ∨ j = 1 ∨ j = 2 ∨ j = 3 ∨ j = 4 ∨ j = 5 by omega) with rfl | rfl | rfl | rfl | rfl | rfl <;> rfl
theorem dvX1 : ∀ j, j < 5 → defaultValue (tyX1 j) = vp_V [.null, .null, .int 0, .int 0, .int 0] j := by
  intro j hj
  rcases (show j = 0 ∨ j = 1 ∨ j = 2 ∨ j = 3 ∨ j = 4 by omega) with rfl | rfl | rfl | rfl | rfl <;> rfl
theorem dvX2 : ∀ j, j < 3 → defaultValue (tyX2 j) = vp_V [.null, .null, .int 0] j := by
  intro j hj
  rcases (show j = 0 ∨ j = 1 ∨ j = 2 by omega) with rfl | rfl | rfl <;> rfl
theorem dvX3 : ∀ j, j < 14 → defaultValue (tyX3 j) = vp_V [.null, .null, .null, .null, .null, .null, .null, .null, .int 0, .int 0, .int 0, .int 0, .int 0, .int 0] j := by
  intro j hj
  rcases (show j = 0 ∨ j = 1 ∨ j = 2 ∨ j = 3 ∨ j = 4 ∨ j = 5 ∨ j = 6 ∨ j = 7 ∨ j = 8 ∨ j = 9 ∨ j = 10 ∨ j = 11 ∨ j = 12 ∨ j = 13 by omega) with rfl | rfl | rfl | rfl | rfl | rfl | rfl | rfl | rfl | rfl | rfl | rfl | rfl | rfl <;> rfl
theorem dvX5 : ∀ j, j < 4 → defaultValue (tyX5 j) = vp_V [.null, .null, .null, .null] j := by
  intro j hj
  rcases (show j = 0 ∨ j = 1 ∨ j = 2 ∨ j = 3 by omega) with rfl | rfl | rfl | rfl <;> rfl
theorem dvX6 : ∀ j, j < 6 → defaultValue (tyX6 j) = vp_V [.null, .null, .null, .null, .int 0, .int 0] j := by
  intro j hj
  rcases (show j = 0 ∨ j = 1 ∨ j = 2 ∨ j = 3 ∨ j = 4 ∨ j = 5 by omega) with rfl | rfl | rfl | rfl | rfl | rfl <;> rfl
theorem dvX7 : ∀ j, j < 9 → defaultValue (tyX7 j) = vp_V [.null, .null, .null, .null, .null, .null, .null, .int 0, .int 0] j := by
  intro j hj
  rcases (show j = 0 ∨ j = 1 ∨ j = 2 ∨ j = 3 ∨ j = 4 ∨ j = 5 ∨ j = 6 ∨ j = 7 ∨ j = 8 by omega) with rfl | rfl | rfl | rfl | rfl | rfl | rfl | rfl | rfl <;> rfl
theorem dvX8 : ∀ j, j < 30 → defaultValue (tyX8 j) = vp_V [.int 0, .int 0, .null, .null, .null, .null, .int 0, .int 0, .int 0, .int 0, .int 0, .int 0, .int 0, .int 0, .int 0, .int 0, .null, .null, .int 0, .null, .null, .null, .null, .int 0, .null, .int 0, .null, .null, .null, .null] j := by
  intro j hj
  rcases (show j = 0 ∨ j = 1 ∨ j = 2 ∨ j = 3 ∨ j = 4 ∨ j = 5 ∨ j = 6 ∨ j = 7 ∨ j = 8 ∨ j = 9 ∨ j = 10 ∨ j = 11 ∨ j = 12 ∨ j = 13 ∨ j = 14 ∨ j = 15 ∨ j = 16 ∨ j = 17 ∨ j = 18 ∨ j = 19 ∨ j = 20 ∨ j = 21 ∨ j = 22 ∨ j = 23 ∨ j = 24 ∨ j = 25 ∨ j = 26 ∨ j = 27 ∨ j = 28 ∨ j = 29 by omega) with rfl | rfl | rfl | rfl | rfl | rfl | rfl | rfl | rfl | rfl | rfl | rfl | rfl | rfl | rfl | rfl | rfl | rfl | rfl | rfl | rfl | rfl | rfl | rfl | rfl | rfl | rfl | rfl | rfl | rfl <;> rfl
end
section
set_option maxHeartbeats 4000000 in
set_option maxRecDepth 100000 in
theorem K2_X1_init (l : Launch) (D : va_G) (cB cI cZ : ClassId) (sz : Nat) (h0 : Nat)  (g0 : Value) (g1 : Value) (g2 : Value) (g3 : Value) (g4 : Value)  :
    CtV l D cB cI cZ yX1_init wsX1_init { frames := 1, cells := 2, slots := 66560, locals := 20 } [.ref h0] [(h0, .inr (1, [g0, g1, g2, g3, g4]))] sz 2 66560
      (fun (u : Nat × Nat) => True)
      (fun u => [(h0, .inr (1, [.ref u.1, .ref u.2, .int 0, .int 0, .int 0])), (u.1, .inl (cB, 65536, .inl zf)), (u.2, .inl (cI, 1024, .inl zf))]) := by
  refine mk_metV (cc := cX1_init) (maxL := 1) (ret := none) (by decide) rfl (Nat.le_of_ble_eq_true rfl) ?_
  intro p e s m below meth c A hx hb hr hml hts hown hlocks hin hP hK hN hD hA hS ls hl
  have hown : s.vm.findClass RX1 = some m.cls := hown
  have hin : meth.name = "<init>" := hin
  have hl : lv_has ls 1 [(0, .ref h0)] := hl
  refine lv_aload_n hx hb dX1_init_0 rfl (lv_at hl 0 rfl) ?_
  refine W.objInit hx hb hown (hts _ wdX1_init_0) (hts _ wdX1_init_1) (hts _ wdX1_init_2) rfl (by rw [hml]; exact hl.1) rfl dX1_init_1 (Nat.le_of_ble_eq_true rfl) (Nat.le_of_ble_eq_true rfl) ?_
  refine W.eq (g2 := F0 m 4 ls []) rfl ?_
  refine lv_aload_n hx hb dX1_init_4 rfl (lv_at hl 0 rfl) ?_
  refine lv_ldc (v := 65536) hx hb hown (hts _ wdX1_init_3) dX1_init_5 ?_
  refine va_newa (atype := .byte) (ty := .byte) (a0 := (65536, .inl zf)) hx hb (hts _ wdX1_init_4) rfl hK hP hD hS hA (fun _ => rfl) (by decide) rfl (Nat.le_of_ble_eq_true rfl) (Nat.le_of_ble_eq_true rfl) (Nat.le_of_ble_eq_true rfl) dX1_init_7 (fun q_1 ca_2 H hK9 hP hD hS => ?_)
  rw [ca_eqB hK9] at hP hD
  have hP : va_P D vwCl [(h0, .inr (1, [g0, g1, g2, g3, g4])), (q_1, .inl (cB, 65536, .inl zf))] H := hP
  have hD : va_D A [(h0, .inr (1, [g0, g1, g2, g3, g4])), (q_1, .inl (cB, 65536, .inl zf))] := hD
  refine W.widen (k := 1) (n := 65536) (Nat.le_of_ble_eq_true rfl) (Nat.le_of_ble_eq_true rfl) ?_
  refine va_putF (D := D) (ci := 1) (v := .ref q_1) (ty := (.array .byte)) (C := RX1) (T := TX1) (N := 5) hx hb hts inX1_init_X1 tyX1 tyX1_ok nmX1 hown hK hP hD hS 0 rfl rfl 0 (by decide) (hts _ wdX1_init_5) (fun _ h9 => h9) rfl hin rfl (by decide +kernel) rfl rfl (Nat.le_of_ble_eq_true rfl) dX1_init_9 (fun H locs hP hD hS => ?_)
  have hP : va_P D vwCl [(h0, .inr (1, [.ref q_1, g1, g2, g3, g4])), (q_1, .inl (cB, 65536, .inl zf))] H := hP
  have hD : va_D A [(h0, .inr (1, [.ref q_1, g1, g2, g3, g4])), (q_1, .inl (cB, 65536, .inl zf))] := hD
  refine lv_aload_n hx hb dX1_init_12 rfl (lv_at hl 0 rfl) ?_
  refine lv_sipush (v := 1024) hx hb dX1_init_13 (by decide) ?_
  refine va_newa (atype := .int) (ty := .int) (a0 := (1024, .inl zf)) hx hb (hts _ wdX1_init_6) rfl hK hP hD hS hA (fun _ => rfl) (by decide) rfl (Nat.le_of_ble_eq_true rfl) (Nat.le_of_ble_eq_true rfl) (Nat.le_of_ble_eq_true rfl) dX1_init_16 (fun q_3 ca_4 H hK9 hP hD hS => ?_)
  rw [ca_eqI hK9] at hP hD
  have hP : va_P D vwCl [(h0, .inr (1, [.ref q_1, g1, g2, g3, g4])), (q_1, .inl (cB, 65536, .inl zf)), (q_3, .inl (cI, 1024, .inl zf))] H := hP
  have hD : va_D A [(h0, .inr (1, [.ref q_1, g1, g2, g3, g4])), (q_1, .inl (cB, 65536, .inl zf)), (q_3, .inl (cI, 1024, .inl zf))] := hD
  refine W.widen (k := 2) (n := 66560) (Nat.le_of_ble_eq_true rfl) (Nat.le_of_ble_eq_true rfl) ?_
  refine va_putF (D := D) (ci := 1) (v := .ref q_3) (ty := (.array .int)) (C := RX1) (T := TX1) (N := 5) hx hb hts inX1_init_X1 tyX1 tyX1_ok nmX1 hown hK hP hD hS 0 rfl rfl 1 (by decide) (hts _ wdX1_init_7) (fun _ h9 => h9) rfl hin rfl (by decide +kernel) rfl rfl (Nat.le_of_ble_eq_true rfl) dX1_init_18 (fun H locs hP hD hS => ?_)
  have hP : va_P D vwCl [(h0, .inr (1, [.ref q_1, .ref q_3, g2, g3, g4])), (q_1, .inl (cB, 65536, .inl zf)), (q_3, .inl (cI, 1024, .inl zf))] H := hP
  have hD : va_D A [(h0, .inr (1, [.ref q_1, .ref q_3, g2, g3, g4])), (q_1, .inl (cB, 65536, .inl zf)), (q_3, .inl (cI, 1024, .inl zf))] := hD
  refine lv_aload_n hx hb dX1_init_21 rfl (lv_at hl 0 rfl) ?_
  refine lv_iconst (v := 0) hx hb dX1_init_22 (by decide) ?_
  refine va_put (D := D) (ci := 1) (v := .int 0) (ty := .int) (C := RX1) (T := TX1) (N := 5) hx hb hts inX1_init_X1 tyX1 tyX1_ok nmX1 hown hK hP hD hS 0 rfl rfl 2 (by decide) (hts _ wdX1_init_8) (fun _ h9 => h9) rfl (by decide +kernel) rfl rfl (Nat.le_of_ble_eq_true rfl) dX1_init_23 (fun H locs hP hD hS => ?_)
  have hP : va_P D vwCl [(h0, .inr (1, [.ref q_1, .ref q_3, .int 0, g3, g4])), (q_1, .inl (cB, 65536, .inl zf)), (q_3, .inl (cI, 1024, .inl zf))] H := hP
  have hD : va_D A [(h0, .inr (1, [.ref q_1, .ref q_3, .int 0, g3, g4])), (q_1, .inl (cB, 65536, .inl zf)), (q_3, .inl (cI, 1024, .inl zf))] := hD
  refine lv_aload_n hx hb dX1_init_26 rfl (lv_at hl 0 rfl) ?_
  refine lv_iconst (v := 0) hx hb dX1_init_27 (by decide) ?_
  refine va_put (D := D) (ci := 1) (v := .int 0) (ty := .int) (C := RX1) (T := TX1) (N := 5) hx hb hts inX1_init_X1 tyX1 tyX1_ok nmX1 hown hK hP hD hS 0 rfl rfl 3 (by decide) (hts _ wdX1_init_9) (fun _ h9 => h9) rfl (by decide +kernel) rfl rfl (Nat.le_of_ble_eq_true rfl) dX1_init_28 (fun H locs hP hD hS => ?_)
  have hP : va_P D vwCl [(h0, .inr (1, [.ref q_1, .ref q_3, .int 0, .int 0, g4])), (q_1, .inl (cB, 65536, .inl zf)), (q_3, .inl (cI, 1024, .inl zf))] H := hP
  have hD : va_D A [(h0, .inr (1, [.ref q_1, .ref q_3, .int 0, .int 0, g4])), (q_1, .inl (cB, 65536, .inl zf)), (q_3, .inl (cI, 1024, .inl zf))] := hD
  refine lv_aload_n hx hb dX1_init_31 rfl (lv_at hl 0 rfl) ?_
  refine lv_iconst (v := 0) hx hb dX1_init_32 (by decide) ?_
  refine va_put (D := D) (ci := 1) (v := .int 0) (ty := .int) (C := RX1) (T := TX1) (N := 5) hx hb hts inX1_init_X1 tyX1 tyX1_ok nmX1 hown hK hP hD hS 0 rfl rfl 4 (by decide) (hts _ wdX1_init_10) (fun _ h9 => h9) rfl (by decide +kernel) rfl rfl (Nat.le_of_ble_eq_true rfl) dX1_init_33 (fun H locs hP hD hS => ?_)
  have hP : va_P D vwCl [(h0, .inr (1, [.ref q_1, .ref q_3, .int 0, .int 0, .int 0])), (q_1, .inl (cB, 65536, .inl zf)), (q_3, .inl (cI, 1024, .inl zf))] H := hP
  have hD : va_D A [(h0, .inr (1, [.ref q_1, .ref q_3, .int 0, .int 0, .int 0])), (q_1, .inl (cB, 65536, .inl zf)), (q_3, .inl (cI, 1024, .inl zf))] := hD
  exact kr_v (q_1, q_3) hx hb hr hlocks hP hD hS trivial dX1_init_36
set_option maxHeartbeats 4000000 in
set_option maxRecDepth 100000 in
theorem K43_X7_isKey (l : Launch) (D : va_G) (cB cI cZ : ClassId) (sz : Nat)   (p0 : Int32) (i_p0 : p0.toInt ≤ (-1)) :
    CtI l D cB cI cZ yX7_isKey wsX7_isKey { frames := 0, cells := 0, slots := 0, locals := 0 } [.int p0] [] sz 0 0
      (fun (r : Int32) (u : Unit) => r = 0)
      (fun u => []) := by
  refine mk_metI (cc := cX7_isKey) (maxL := 1) (ret := (some .boolean)) (by decide) rfl (Nat.le_of_ble_eq_true rfl) ?_
  intro p e s m below meth c A hx hb hr hml hts hown hlocks hin hP hK hN hD hA hS ls hl
  have hown : s.vm.findClass RX7 = some m.cls := hown
  have hl : lv_has ls 1 [(0, .int p0)] := hl
  refine lv_iload_n hx hb dX7_isKey_0 rfl (lv_at hl 0 rfl) ?_
  refine lv_if_lt (tgt := 15) hx hb dX7_isKey_1 (by decide) (fun c => ?_) (fun c => absurd ((ti_lt (x := p0) (y := 0) (a := p0.toInt) (b := 0) rfl (by decide)).mpr (by omega)) c)
  refine lv_iconst (v := 0) hx hb dX7_isKey_15 (by decide) ?_
  exact kr_z () hx hb hr rfl hlocks hP hD hS rfl dX7_isKey_16
set_option maxHeartbeats 4000000 in
set_option maxRecDepth 100000 in
theorem K47_X7_isKey (l : Launch) (D : va_G) (cB cI cZ : ClassId) (sz : Nat)   (p0 : Int32) (i_p0 : 0 ≤ p0.toInt ∧ p0.toInt ≤ 299) :
    CtI l D cB cI cZ yX7_isKey wsX7_isKey { frames := 0, cells := 0, slots := 0, locals := 0 } [.int p0] [] sz 0 0
      (fun (r : Int32) (u : Unit) => r = 1)
      (fun u => []) := by
  refine mk_metI (cc := cX7_isKey) (maxL := 1) (ret := (some .boolean)) (by decide) rfl (Nat.le_of_ble_eq_true rfl) ?_
  intro p e s m below meth c A hx hb hr hml hts hown hlocks hin hP hK hN hD hA hS ls hl
  have hown : s.vm.findClass RX7 = some m.cls := hown
  have hl : lv_has ls 1 [(0, .int p0)] := hl
  refine lv_iload_n hx hb dX7_isKey_0 rfl (lv_at hl 0 rfl) ?_
  refine lv_if_lt (tgt := 15) hx hb dX7_isKey_1 (by decide) (fun c => absurd ((ti_lt (x := p0) (y := 0) (a := p0.toInt) (b := 0) rfl (by decide)).mp c) (by omega)) (fun c => ?_)
  refine lv_iload_n hx hb dX7_isKey_4 rfl (lv_at hl 0 rfl) ?_
  refine lv_sipush (v := 300) hx hb dX7_isKey_5 (by decide) ?_
  refine lv_icmp_ge (tgt := 15) hx hb dX7_isKey_8 (by decide) (fun c => absurd ((ti_le (x := 300) (y := p0) (a := 300) (b := p0.toInt) (by decide) rfl).mp c) (by omega)) (fun c => ?_)
  refine lv_iconst (v := 1) hx hb dX7_isKey_11 (by decide) ?_
  refine lv_goto (tgt := 16) hx hb dX7_isKey_12 (by decide) ?_
  exact kr_z () hx hb hr rfl hlocks hP hD hS rfl dX7_isKey_16
set_option maxHeartbeats 4000000 in
set_option maxRecDepth 100000 in
theorem K50_X3_countFree (l : Launch) (D : va_G) (cB cI cZ : ClassId) (sz : Nat) (h0 : Nat) (h1 : Nat)  (g0 : Value) (g1 : Value) (g2 : Value) (g3 : Value) (g4 : Value) (g5 : Value) (g6 : Value) (g7 : Value) (g8 : Value) (g9 : Value) (g10 : Value) (g11 : Value) (g12 : Value)  :
    CtI l D cB cI cZ yX3_countFree wsX3_countFree { frames := 0, cells := 0, slots := 0, locals := 0 } [.ref h0] [(h0, .inr (3, [g0, g1, .ref h1, g2, g3, g4, g5, g6, g7, g8, g9, g10, g11, g12])), (h1, .inl (cI, 64, .inl zf))] sz 0 0
      (fun (r : Int32) (u : Unit) => r = 56)
      (fun u => [(h0, .inr (3, [g0, g1, .ref h1, g2, g3, g4, g5, g6, g7, g8, g9, g10, g11, g12])), (h1, .inl (cI, 64, .inl zf))]) := by
  refine mk_metI (cc := cX3_countFree) (maxL := 3) (ret := (some .int)) (by decide) rfl (Nat.le_of_ble_eq_true rfl) ?_
  intro p e s m below meth c A hx hb hr hml hts hown hlocks hin hP hK hN hD hA hS ls hl
  have hown : s.vm.findClass RX3 = some m.cls := hown
  have hl : lv_has ls 3 [(0, .ref h0)] := hl
  refine lv_iconst (v := 0) hx hb dX3_countFree_0 (by decide) ?_
  refine lv_istore_n (lv' := [(1, .int 0), (0, .ref h0)]) hx hb dX3_countFree_1 rfl hl (by decide) rfl (fun ls hl => ?_)
  refine lv_bipush (v := 8) hx hb dX3_countFree_2 (by decide) ?_
  refine lv_istore_n (lv' := [(2, .int 8), (1, .int 0), (0, .ref h0)]) hx hb dX3_countFree_4 rfl hl (by decide) rfl (fun ls hl => ?_)
  refine kl (α := Int32 × Int32) (fun n a H locs ls => (8 ≤ Int32.toInt (a.1)) ∧ (Int32.toInt (a.1) ≤ 64) ∧ (Int32.toInt (a.2) = Int32.toInt (a.1) + (-8)) ∧ (64 - Int32.toInt (a.1) < ((n : Nat) : Int)) ∧ va_P D vwCl [(h0, .inr (3, [g0, g1, .ref h1, g2, g3, g4, g5, g6, g7, g8, g9, g10, g11, g12])), (h1, .inl (cI, 64, .inl zf))] H ∧ va_D A [(h0, .inr (3, [g0, g1, .ref h1, g2, g3, g4, g5, g6, g7, g8, g9, g10, g11, g12])), (h1, .inl (cI, 64, .inl zf))] ∧ va_S A s.heap H locs ∧ lv_has ls 3 [(2, .int (a.1)), (1, .int (a.2)), (0, .ref h0)]) 57 (8, 0) ⟨(by show 8 ≤ Int32.toInt 8; decide), (by show Int32.toInt 8 ≤ 64; decide), (by show Int32.toInt 0 = Int32.toInt 8 + (-8); decide), (by show 64 - Int32.toInt 8 < ((57 : Nat) : Int); have := (by decide : Int32.toInt 8 = 8); omega), hP, hD, hS, hl⟩ (fun a H locs ls h => ?_) (fun n_3 ih_4 a H locs ls h => ?_)
  · obtain ⟨j_5, j_6, j_7, j_8, _⟩ := h
    omega
  obtain ⟨v_2, v_1⟩ := a
  obtain ⟨j_5, j_6, j_7, j_8, hP, hD, hS, hl⟩ := h
  have j_5 : 8 ≤ Int32.toInt v_2 := j_5
  have j_6 : Int32.toInt v_2 ≤ 64 := j_6
  have j_7 : Int32.toInt v_1 = Int32.toInt v_2 + (-8) := j_7
  have j_8 : 64 - Int32.toInt v_2 < ((n_3 + 1 : Nat) : Int) := j_8
  have hP : va_P D vwCl [(h0, .inr (3, [g0, g1, .ref h1, g2, g3, g4, g5, g6, g7, g8, g9, g10, g11, g12])), (h1, .inl (cI, 64, .inl zf))] H := hP
  have hD : va_D A [(h0, .inr (3, [g0, g1, .ref h1, g2, g3, g4, g5, g6, g7, g8, g9, g10, g11, g12])), (h1, .inl (cI, 64, .inl zf))] := hD
  have hl : lv_has ls 3 [(2, .int v_2), (1, .int v_1), (0, .ref h0)] := hl
  refine lv_iload_n hx hb dX3_countFree_5 rfl (lv_at hl 0 rfl) ?_
  refine lv_bipush (v := 64) hx hb dX3_countFree_6 (by decide) ?_
  refine lv_icmp_ge (tgt := 29) hx hb dX3_countFree_8 (by decide) (fun c => ?_) (fun c => ?_)
  · skip
    have k_9 := (ti_le (x := 64) (y := v_2) (a := 64) (b := v_2.toInt) (by decide) rfl).mp c
    obtain rfl : v_1 = 56 := ti_inj (a := 56) (by decide) (by omega)
    obtain rfl : v_2 = 64 := ti_inj (a := 64) (by decide) (by omega)
    refine lv_iload_n hx hb dX3_countFree_29 rfl (lv_at hl 1 rfl) ?_
    exact kr_i () hx hb hr hlocks hP hD hS rfl dX3_countFree_30
  · skip
    have k_10 := mt (ti_le (x := 64) (y := v_2) (a := 64) (b := v_2.toInt) (by decide) rfl).mpr c
    refine lv_aload_n hx hb dX3_countFree_11 rfl (lv_at hl 2 rfl) ?_
    refine va_get (D := D) (ci := 3) (v := .ref h1) (C := RX3) (T := TX3) (N := 14) hx hb hts inX3_countFree_X3 hown hK hP 0 rfl rfl 2 (by decide) (hts _ wdX3_countFree_0) (fun _ h9 => h9) rfl dX3_countFree_12 ?_
    refine lv_iload_n hx hb dX3_countFree_15 rfl (lv_at hl 0 rfl) ?_
    refine va_iald hx hb hK hP 1 1 rfl rfl (ti_in (a := v_2.toInt) rfl (by omega) (by omega)) dX3_countFree_16 ?_
    refine lv_topi (fun z_11 ez_11 => ?_)
    obtain rfl : z_11 = 0 := ez_11
    refine lv_if_ne (tgt := 23) hx hb dX3_countFree_17 (by decide) (fun c => absurd (by decide) c) (fun c => ?_)
    obtain ⟨x_12, ex_12⟩ : ∃ y : Int32, y = v_1 + 1 := ⟨_, rfl⟩
    have tx_12 : x_12.toInt = v_1.toInt + 1 := by rw [ex_12]; exact ti_add rfl (by decide) (by omega) (by omega)
    refine lv_iinc (v := x_12) (lv' := [(1, .int x_12), (2, .int v_2), (0, .ref h0)]) hx hb dX3_countFree_20 hl (k := 1) rfl (by rw [ex_12]; rfl) (by decide) rfl (fun ls hl => ?_)
    obtain ⟨x_13, ex_13⟩ : ∃ y : Int32, y = v_2 + 1 := ⟨_, rfl⟩
    have tx_13 : x_13.toInt = v_2.toInt + 1 := by rw [ex_13]; exact ti_add rfl (by decide) (by omega) (by omega)
    refine lv_iinc (v := x_13) (lv' := [(2, .int x_13), (1, .int x_12), (0, .ref h0)]) hx hb dX3_countFree_23 hl (k := 1) rfl (by rw [ex_13]; rfl) (by decide) rfl (fun ls hl => ?_)
    refine lv_goto (tgt := 5) hx hb dX3_countFree_26 (by decide) ?_
    exact ih_4 (x_13, x_12) _ _ _ ⟨(by show 8 ≤ Int32.toInt x_13; omega), (by show Int32.toInt x_13 ≤ 64; omega), (by show Int32.toInt x_12 = Int32.toInt x_13 + (-8); omega), (by show 64 - Int32.toInt x_13 < ((n_3 : Nat) : Int); omega), hP, hD, hS, hl⟩
set_option maxHeartbeats 4000000 in
set_option maxRecDepth 100000 in
theorem K60_X4_isWithin (l : Launch) (D : va_G) (cB cI cZ : ClassId) (sz : Nat) (h0 : Nat)  (p0 : Int32) (i_p0 : 0 ≤ p0.toInt ∧ p0.toInt ≤ 65535) :
    CtI l D cB cI cZ yX4_isWithin wsX4_isWithin { frames := 0, cells := 0, slots := 0, locals := 0 } [.ref h0, .int p0, .int 1] [(h0, .inl (cB, 65536, .inl zf))] sz 0 0
      (fun (r : Int32) (u : Unit) => r = 1)
      (fun u => [(h0, .inl (cB, 65536, .inl zf))]) := by
  refine mk_metI (cc := cX4_isWithin) (maxL := 3) (ret := (some .boolean)) (by decide) rfl (Nat.le_of_ble_eq_true rfl) ?_
  intro p e s m below meth c A hx hb hr hml hts hown hlocks hin hP hK hN hD hA hS ls hl
  have hown : s.vm.findClass RX4 = some m.cls := hown
  have hl : lv_has ls 3 [(0, .ref h0), (1, .int p0), (2, .int 1)] := hl
  refine lv_iload_n hx hb dX4_isWithin_0 rfl (lv_at hl 1 rfl) ?_
  refine lv_if_lt (tgt := 26) hx hb dX4_isWithin_1 (by decide) (fun c => absurd ((ti_lt (x := p0) (y := 0) (a := p0.toInt) (b := 0) rfl (by decide)).mp c) (by omega)) (fun c => ?_)
  refine lv_iload_n hx hb dX4_isWithin_4 rfl (lv_at hl 2 rfl) ?_
  refine lv_if_lt (tgt := 26) hx hb dX4_isWithin_5 (by decide) (fun c => absurd c (by decide)) (fun c => ?_)
  refine lv_iload_n hx hb dX4_isWithin_8 rfl (lv_at hl 2 rfl) ?_
  refine lv_aload_n hx hb dX4_isWithin_9 rfl (lv_at hl 0 rfl) ?_
  refine va_alen (v := 65536) hx hb hK hP 0 0 rfl rfl (show Int32.ofNat 65536 = 65536 by decide) dX4_isWithin_10 ?_
  refine lv_icmp_gt (tgt := 26) hx hb dX4_isWithin_11 (by decide) (fun c => absurd c (by decide)) (fun c => ?_)
  refine lv_iload_n hx hb dX4_isWithin_14 rfl (lv_at hl 1 rfl) ?_
  refine lv_aload_n hx hb dX4_isWithin_15 rfl (lv_at hl 0 rfl) ?_
  refine va_alen (v := 65536) hx hb hK hP 0 0 rfl rfl (show Int32.ofNat 65536 = 65536 by decide) dX4_isWithin_16 ?_
  refine lv_iload_n hx hb dX4_isWithin_17 rfl (lv_at hl 2 rfl) ?_
  refine lv_isub hx hb dX4_isWithin_18 ?_
  refine lv_topi (fun z_1 ez_1 => ?_)
  obtain rfl : z_1 = 65535 := ez_1.trans (by decide)
  refine lv_icmp_gt (tgt := 26) hx hb dX4_isWithin_19 (by decide) (fun c => absurd ((ti_lt (x := 65535) (y := p0) (a := 65535) (b := p0.toInt) (by decide) rfl).mp c) (by omega)) (fun c => ?_)
  refine lv_iconst (v := 1) hx hb dX4_isWithin_22 (by decide) ?_
  refine lv_goto (tgt := 27) hx hb dX4_isWithin_23 (by decide) ?_
  exact kr_z () hx hb hr rfl hlocks hP hD hS rfl dX4_isWithin_27
set_option maxHeartbeats 4000000 in
set_option maxRecDepth 100000 in
theorem K59_X4_setNumber (l : Launch) (D : va_G) (cB cI cZ : ClassId) (sz : Nat) (h0 : Nat)  (p0 : Int32) (p1 : Int32) (i_p0 : 0 ≤ p0.toInt ∧ p0.toInt ≤ 65535) :
    CtV l D cB cI cZ yX4_setNumber wsX4_setNumber { frames := 1, cells := 0, slots := 0, locals := 22 } [.ref h0, .int p0, .int 1, .int p1] [(h0, .inl (cB, 65536, .inl zf))] sz 0 0
      (fun (u : (Nat → Int32)) => FB u ∧ (u = upd zf (Int32.toNatClampNeg p0) (vp_nar .byte (Int8.toInt32 (Int32.toInt8 p1)))))
      (fun u => [(h0, .inl (cB, 65536, .inl u))]) := by
  refine mk_metV (cc := cX4_setNumber) (maxL := 6) (ret := none) (by decide) rfl (Nat.le_of_ble_eq_true rfl) ?_
  intro p e s m below meth c A hx hb hr hml hts hown hlocks hin hP hK hN hD hA hS ls hl
  have hown : s.vm.findClass RX4 = some m.cls := hown
  have hl : lv_has ls 6 [(0, .ref h0), (1, .int p0), (2, .int 1), (3, .int p1)] := hl
  refine lv_aload_n hx hb dX4_setNumber_0 rfl (lv_at hl 0 rfl) ?_
  refine lv_iload_n hx hb dX4_setNumber_1 rfl (lv_at hl 1 rfl) ?_
  refine lv_iload_n hx hb dX4_setNumber_2 rfl (lv_at hl 2 rfl) ?_
  refine kc_i (wr := []) (va_runS (As := [.ref h0, .int p0, .int 1]) (rest := []) ⟨hx, hb, hml, hown, hts⟩ (K60_X4_isWithin l D cB cI cZ _ h0 p0 ⟨by omega, by omega⟩) (va_cwS 3 hts gX4_setNumber_X4_isWithin rfl rfl rfl (by decide +kernel) ⟨Nat.le_of_ble_eq_true rfl, Nat.le_of_ble_eq_true rfl⟩) (pre_S (hP.sub [0] rfl) hK hN (hD.sub [0] (by decide) rfl)) rfl rfl hl.1 rfl (lv_room (Nat.le_of_ble_eq_true rfl)) dX4_setNumber_3 ⟨Nat.le_of_ble_eq_true rfl, Nat.le_of_ble_eq_true rfl⟩) hP hD hS hA [0] [] rfl rfl (by decide) (by decide) (fun r_1 u H locs hw hP hD hS => ?_)
  have k_2 := hw
  obtain rfl : r_1 = 1 := k_2
  have hP : va_P D vwCl [(h0, .inl (cB, 65536, .inl zf))] H := hP
  have hD : va_D A [(h0, .inl (cB, 65536, .inl zf))] := hD
  refine lv_if_ne (tgt := 10) hx hb dX4_setNumber_6 (by decide) (fun c => ?_) (fun c => absurd c (by decide))
  refine lv_iload_n hx hb dX4_setNumber_10 rfl (lv_at hl 3 rfl) ?_
  refine lv_istore (lv' := [(4, .int p1), (0, .ref h0), (1, .int p0), (2, .int 1), (3, .int p1)]) hx hb dX4_setNumber_11 hl (by decide) rfl (fun ls hl => ?_)
  refine lv_iload_n hx hb dX4_setNumber_13 rfl (lv_at hl 2 rfl) ?_
  refine lv_iload_n hx hb dX4_setNumber_14 rfl (lv_at hl 3 rfl) ?_
  refine lv_iadd hx hb dX4_setNumber_15 ?_
  refine lv_topi (fun x_3 ex_3 => ?_)
  have tx_3 : x_3.toInt = p0.toInt + 1 := by rw [ex_3]; exact ti_add rfl (by decide) (by omega) (by omega)
  refine lv_iconst (v := 1) hx hb dX4_setNumber_16 (by decide) ?_
  refine lv_isub hx hb dX4_setNumber_17 ?_
  refine lv_topi (fun x_4 ex_4 => ?_)
  have tx_4 : x_4.toInt = x_3.toInt - 1 := by rw [ex_4]; exact ti_sub rfl (by decide) (by omega) (by omega)
  refine lv_istore (lv' := [(5, .int x_4), (4, .int p1), (0, .ref h0), (1, .int p0), (2, .int 1), (3, .int p1)]) hx hb dX4_setNumber_18 hl (by decide) rfl (fun ls hl => ?_)
  refine lv_iload hx hb dX4_setNumber_20 (lv_at hl 0 rfl) ?_
  refine lv_iload_n hx hb dX4_setNumber_22 rfl (lv_at hl 3 rfl) ?_
  refine lv_icmp_lt (tgt := 46) hx hb dX4_setNumber_23 (by decide) (fun c => absurd ((ti_lt (x := x_4) (y := p0) (a := x_4.toInt) (b := p0.toInt) rfl rfl).mp c) (by omega)) (fun c => ?_)
  refine lv_aload_n hx hb dX4_setNumber_26 rfl (lv_at hl 2 rfl) ?_
  refine lv_iload hx hb dX4_setNumber_27 (lv_at hl 0 rfl) ?_
  refine lv_iload hx hb dX4_setNumber_29 (lv_at hl 1 rfl) ?_
  refine lv_i2b hx hb dX4_setNumber_31 rfl ?_
  refine lv_topi (fun x_5 ex_5 => ?_)
  refine va_bast hx hb hK hP hD hS 0 0 rfl rfl (ti_in (a := x_4.toInt) rfl (by omega) (by omega)) dX4_setNumber_32 (fun H locs hP hD hS => ?_)
  obtain ⟨f_6, ef_6⟩ : ∃ g : Nat → Int32, g = upd zf (Int32.toNatClampNeg x_4) (vp_nar .byte x_5) := ⟨_, rfl⟩
  rw [← ef_6] at hP hD
  have bf_6 : FB f_6 := by rw [ef_6]; exact FB_upd FB_zf _ _
  have hP : va_P D vwCl [(h0, .inl (cB, 65536, .inl f_6))] H := hP
  have hD : va_D A [(h0, .inl (cB, 65536, .inl f_6))] := hD
  refine lv_iload hx hb dX4_setNumber_33 (lv_at hl 1 rfl) ?_
  refine lv_bipush (v := 8) hx hb dX4_setNumber_35 (by decide) ?_
  refine lv_iushr hx hb dX4_setNumber_37 rfl ?_
  refine lv_topi (fun x_7 ex_7 => ?_)
  refine lv_istore (lv' := [(4, .int x_7), (5, .int x_4), (0, .ref h0), (1, .int p0), (2, .int 1), (3, .int p1)]) hx hb dX4_setNumber_38 hl (by decide) rfl (fun ls hl => ?_)
  obtain ⟨x_8, ex_8⟩ : ∃ y : Int32, y = x_4 + (-1) := ⟨_, rfl⟩
  have tx_8 : x_8.toInt = x_4.toInt + (-1) := by rw [ex_8]; exact ti_add rfl (by decide) (by omega) (by omega)
  refine lv_iinc (v := x_8) (lv' := [(5, .int x_8), (4, .int x_7), (0, .ref h0), (1, .int p0), (2, .int 1), (3, .int p1)]) hx hb dX4_setNumber_40 hl (k := 1) rfl (by rw [ex_8]; rfl) (by decide) rfl (fun ls hl => ?_)
  refine lv_goto (tgt := 20) hx hb dX4_setNumber_43 (by decide) ?_
  refine lv_iload hx hb dX4_setNumber_20 (lv_at hl 0 rfl) ?_
  refine lv_iload_n hx hb dX4_setNumber_22 rfl (lv_at hl 3 rfl) ?_
  refine lv_icmp_lt (tgt := 46) hx hb dX4_setNumber_23 (by decide) (fun c => ?_) (fun c => absurd ((ti_lt (x := x_8) (y := p0) (a := x_8.toInt) (b := p0.toInt) rfl rfl).mpr (by omega)) c)
  exact kr_v f_6 hx hb hr hlocks hP hD hS ⟨bf_6, (by rw [ef_6, ex_5, show x_4 = p0 from ti_inj (a := p0.toInt) rfl (by omega)])⟩ dX4_setNumber_46
set_option maxHeartbeats 4000000 in
set_option maxRecDepth 100000 in
theorem K62_X4_isWithin (l : Launch) (D : va_G) (cB cI cZ : ClassId) (sz : Nat) (h0 : Nat)  (p0 : Int32) (f0 : Nat → Int32) (i_p0 : 0 ≤ p0.toInt ∧ p0.toInt ≤ 65535) (b_f0 : FB f0) :
    CtI l D cB cI cZ yX4_isWithin wsX4_isWithin { frames := 0, cells := 0, slots := 0, locals := 0 } [.ref h0, .int p0, .int 1] [(h0, .inl (cB, 65536, .inl f0))] sz 0 0
      (fun (r : Int32) (u : Unit) => r = 1)
      (fun u => [(h0, .inl (cB, 65536, .inl f0))]) := by
  refine mk_metI (cc := cX4_isWithin) (maxL := 3) (ret := (some .boolean)) (by decide) rfl (Nat.le_of_ble_eq_true rfl) ?_
  intro p e s m below meth c A hx hb hr hml hts hown hlocks hin hP hK hN hD hA hS ls hl
  have hown : s.vm.findClass RX4 = some m.cls := hown
  have hl : lv_has ls 3 [(0, .ref h0), (1, .int p0), (2, .int 1)] := hl
  refine lv_iload_n hx hb dX4_isWithin_0 rfl (lv_at hl 1 rfl) ?_
  refine lv_if_lt (tgt := 26) hx hb dX4_isWithin_1 (by decide) (fun c => absurd ((ti_lt (x := p0) (y := 0) (a := p0.toInt) (b := 0) rfl (by decide)).mp c) (by omega)) (fun c => ?_)
  refine lv_iload_n hx hb dX4_isWithin_4 rfl (lv_at hl 2 rfl) ?_
  refine lv_if_lt (tgt := 26) hx hb dX4_isWithin_5 (by decide) (fun c => absurd c (by decide)) (fun c => ?_)
  refine lv_iload_n hx hb dX4_isWithin_8 rfl (lv_at hl 2 rfl) ?_
  refine lv_aload_n hx hb dX4_isWithin_9 rfl (lv_at hl 0 rfl) ?_
  refine va_alen (v := 65536) hx hb hK hP 0 0 rfl rfl (show Int32.ofNat 65536 = 65536 by decide) dX4_isWithin_10 ?_
  refine lv_icmp_gt (tgt := 26) hx hb dX4_isWithin_11 (by decide) (fun c => absurd c (by decide)) (fun c => ?_)
  refine lv_iload_n hx hb dX4_isWithin_14 rfl (lv_at hl 1 rfl) ?_
  refine lv_aload_n hx hb dX4_isWithin_15 rfl (lv_at hl 0 rfl) ?_
  refine va_alen (v := 65536) hx hb hK hP 0 0 rfl rfl (show Int32.ofNat 65536 = 65536 by decide) dX4_isWithin_16 ?_
  refine lv_iload_n hx hb dX4_isWithin_17 rfl (lv_at hl 2 rfl) ?_
  refine lv_isub hx hb dX4_isWithin_18 ?_
  refine lv_topi (fun z_1 ez_1 => ?_)
  obtain rfl : z_1 = 65535 := ez_1.trans (by decide)
  refine lv_icmp_gt (tgt := 26) hx hb dX4_isWithin_19 (by decide) (fun c => absurd ((ti_lt (x := 65535) (y := p0) (a := 65535) (b := p0.toInt) (by decide) rfl).mp c) (by omega)) (fun c => ?_)
  refine lv_iconst (v := 1) hx hb dX4_isWithin_22 (by decide) ?_
  refine lv_goto (tgt := 27) hx hb dX4_isWithin_23 (by decide) ?_
  exact kr_z () hx hb hr rfl hlocks hP hD hS rfl dX4_isWithin_27
set_option maxHeartbeats 4000000 in
set_option maxRecDepth 100000 in
theorem K99_X7_isKey (l : Launch) (D : va_G) (cB cI cZ : ClassId) (sz : Nat)   (p0 : Int32) (i_p0 : 300 ≤ p0.toInt) :
    CtI l D cB cI cZ yX7_isKey wsX7_isKey { frames := 0, cells := 0, slots := 0, locals := 0 } [.int p0] [] sz 0 0
      (fun (r : Int32) (u : Unit) => r = 0)
      (fun u => []) := by
  refine mk_metI (cc := cX7_isKey) (maxL := 1) (ret := (some .boolean)) (by decide) rfl (Nat.le_of_ble_eq_true rfl) ?_
  intro p e s m below meth c A hx hb hr hml hts hown hlocks hin hP hK hN hD hA hS ls hl
  have hown : s.vm.findClass RX7 = some m.cls := hown
  have hl : lv_has ls 1 [(0, .int p0)] := hl
  refine lv_iload_n hx hb dX7_isKey_0 rfl (lv_at hl 0 rfl) ?_
  refine lv_if_lt (tgt := 15) hx hb dX7_isKey_1 (by decide) (fun c => absurd ((ti_lt (x := p0) (y := 0) (a := p0.toInt) (b := 0) rfl (by decide)).mp c) (by omega)) (fun c => ?_)
  refine lv_iload_n hx hb dX7_isKey_4 rfl (lv_at hl 0 rfl) ?_
  refine lv_sipush (v := 300) hx hb dX7_isKey_5 (by decide) ?_
  refine lv_icmp_ge (tgt := 15) hx hb dX7_isKey_8 (by decide) (fun c => ?_) (fun c => absurd ((ti_le (x := 300) (y := p0) (a := 300) (b := p0.toInt) (by decide) rfl).mpr (by omega)) c)
  refine lv_iconst (v := 0) hx hb dX7_isKey_15 (by decide) ?_
  exact kr_z () hx hb hr rfl hlocks hP hD hS rfl dX7_isKey_16
set_option maxHeartbeats 4000000 in
set_option maxRecDepth 100000 in
theorem K104_X7_isKey (l : Launch) (D : va_G) (cB cI cZ : ClassId) (sz : Nat)   (p0 : Int32)  :
    CtI l D cB cI cZ yX7_isKey wsX7_isKey { frames := 0, cells := 0, slots := 0, locals := 0 } [.int p0] [] sz 0 0
      (fun (r : Int32) (u : Unit) => ((r = 0) ∨ (r = 1 ∧ 0 ≤ p0.toInt ∧ p0.toInt ≤ 299)))
      (fun u => []) := by
  refine mk_metI (cc := cX7_isKey) (maxL := 1) (ret := (some .boolean)) (by decide) rfl (Nat.le_of_ble_eq_true rfl) ?_
  intro p e s m below meth c A hx hb hr hml hts hown hlocks hin hP hK hN hD hA hS ls hl
  have hown : s.vm.findClass RX7 = some m.cls := hown
  have hl : lv_has ls 1 [(0, .int p0)] := hl
  refine lv_iload_n hx hb dX7_isKey_0 rfl (lv_at hl 0 rfl) ?_
  refine lv_if_lt (tgt := 15) hx hb dX7_isKey_1 (by decide) (fun c => ?_) (fun c => ?_)
  · skip
    have k_1 := (ti_lt (x := p0) (y := 0) (a := p0.toInt) (b := 0) rfl (by decide)).mp c
    refine lv_iconst (v := 0) hx hb dX7_isKey_15 (by decide) ?_
    exact kr_z () hx hb hr rfl hlocks hP hD hS (Or.inl rfl) dX7_isKey_16
  · skip
    have k_2 := mt (ti_lt (x := p0) (y := 0) (a := p0.toInt) (b := 0) rfl (by decide)).mpr c
    refine lv_iload_n hx hb dX7_isKey_4 rfl (lv_at hl 0 rfl) ?_
    refine lv_sipush (v := 300) hx hb dX7_isKey_5 (by decide) ?_
    refine lv_icmp_ge (tgt := 15) hx hb dX7_isKey_8 (by decide) (fun c => ?_) (fun c => ?_)
    · skip
      have k_3 := (ti_le (x := 300) (y := p0) (a := 300) (b := p0.toInt) (by decide) rfl).mp c
      refine lv_iconst (v := 0) hx hb dX7_isKey_15 (by decide) ?_
      exact kr_z () hx hb hr rfl hlocks hP hD hS (Or.inl rfl) dX7_isKey_16
    · skip
      have k_4 := mt (ti_le (x := 300) (y := p0) (a := 300) (b := p0.toInt) (by decide) rfl).mpr c
      refine lv_iconst (v := 1) hx hb dX7_isKey_11 (by decide) ?_
      refine lv_goto (tgt := 16) hx hb dX7_isKey_12 (by decide) ?_
      exact kr_z () hx hb hr rfl hlocks hP hD hS (Or.inr ⟨rfl, (by first | omega | decide), (by first | omega | decide)⟩) dX7_isKey_16
set_option maxHeartbeats 4000000 in
set_option maxRecDepth 100000 in
theorem K105_X7_isOfLog (l : Launch) (D : va_G) (cB cI cZ : ClassId) (sz : Nat)     :
    CtI l D cB cI cZ yX7_isOfLog wsX7_isOfLog { frames := 0, cells := 0, slots := 0, locals := 0 } [.int 0] [] sz 0 0
      (fun (r : Int32) (u : Unit) => r = 0)
      (fun u => []) := by
  refine mk_metI (cc := cX7_isOfLog) (maxL := 1) (ret := (some .boolean)) (by decide) rfl (Nat.le_of_ble_eq_true rfl) ?_
  intro p e s m below meth c A hx hb hr hml hts hown hlocks hin hP hK hN hD hA hS ls hl
  have hown : s.vm.findClass RX7 = some m.cls := hown
  have hl : lv_has ls 1 [(0, .int 0)] := hl
  refine lv_iload_n hx hb dX7_isOfLog_0 rfl (lv_at hl 0 rfl) ?_
  refine lv_bipush (v := 8) hx hb dX7_isOfLog_1 (by decide) ?_
  refine lv_icmp_lt (tgt := 16) hx hb dX7_isOfLog_3 (by decide) (fun c => ?_) (fun c => absurd (by decide) c)
  refine lv_iconst (v := 0) hx hb dX7_isOfLog_16 (by decide) ?_
  exact kr_z () hx hb hr rfl hlocks hP hD hS rfl dX7_isOfLog_17
set_option maxHeartbeats 4000000 in
set_option maxRecDepth 100000 in
theorem K103_X2_has (l : Launch) (D : va_G) (cB cI cZ : ClassId) (sz : Nat) (h0 : Nat) (h1 : Nat)  (p0 : Int32) (g0 : Value) (g1 : Value)  :
    CtI l D cB cI cZ yX2_has wsX2_has { frames := 1, cells := 0, slots := 0, locals := 20 } [.ref h0, .int p0] [(h0, .inr (2, [.ref h1, g0, g1])), (h1, .inl (cI, 300, .inl zf))] sz 0 0
      (fun (r : Int32) (u : Unit) => r = 0)
      (fun u => [(h0, .inr (2, [.ref h1, g0, g1])), (h1, .inl (cI, 300, .inl zf))]) := by
  refine mk_metI (cc := cX2_has) (maxL := 2) (ret := (some .boolean)) (by decide) rfl (Nat.le_of_ble_eq_true rfl) ?_
  intro p e s m below meth c A hx hb hr hml hts hown hlocks hin hP hK hN hD hA hS ls hl
  have hown : s.vm.findClass RX2 = some m.cls := hown
  have hl : lv_has ls 2 [(0, .ref h0), (1, .int p0)] := hl
  refine lv_iload_n hx hb dX2_has_0 rfl (lv_at hl 1 rfl) ?_
  refine kc_i (wr := [(h0, .inr (2, [.ref h1, g0, g1])), (h1, .inl (cI, 300, .inl zf))]) (va_runSN (As := [.int p0]) (rest := []) ⟨hx, hb, hml, hown, hts⟩ (K104_X7_isKey l D cB cI cZ _ p0) ⟨va_cnB 1 hts gX2_has_X7_isKey_n22 rfl rfl rfl (hN.m (a := RX2) (i := 22) (y := yX7_isKey) (by decide +kernel)) (hts _ wdX2_has_0) (by decide +kernel) ⟨Nat.le_of_ble_eq_true rfl, Nat.le_of_ble_eq_true rfl⟩, hts _ wdX2_has_1, trivial⟩ (pre_S (hP.sub [] rfl) hK hN (hD.sub [] (by decide) rfl)) rfl rfl hl.1 rfl (lv_room (Nat.le_of_ble_eq_true rfl)) dX2_has_1 ⟨Nat.le_of_ble_eq_true rfl, Nat.le_of_ble_eq_true rfl⟩) hP hD hS hA [] [0, 1] rfl rfl (by decide) (by decide) (fun r_1 u H locs hw hP hD hS => ?_)
  have hcs := hw
  have hP : va_P D vwCl [(h0, .inr (2, [.ref h1, g0, g1])), (h1, .inl (cI, 300, .inl zf))] H := hP
  have hD : va_D A [(h0, .inr (2, [.ref h1, g0, g1])), (h1, .inl (cI, 300, .inl zf))] := hD
  rcases hcs with hcs | hcs
  · skip
    obtain rfl := hcs
    refine lv_if_eq (tgt := 23) hx hb dX2_has_4 (by decide) (fun c => ?_) (fun c => absurd (by decide) c)
    refine lv_iconst (v := 0) hx hb dX2_has_23 (by decide) ?_
    exact kr_z () hx hb hr rfl hlocks hP hD hS rfl dX2_has_24
  · skip
    obtain ⟨rfl, k_2, k_3⟩ := hcs
    refine lv_if_eq (tgt := 23) hx hb dX2_has_4 (by decide) (fun c => absurd c (by decide)) (fun c => ?_)
    refine lv_aload_n hx hb dX2_has_7 rfl (lv_at hl 0 rfl) ?_
    refine va_get (D := D) (ci := 2) (v := .ref h1) (C := RX2) (T := TX2) (N := 3) hx hb hts inX2_has_X2 hown hK hP 0 rfl rfl 0 (by decide) (hts _ wdX2_has_2) (fun _ h9 => h9) rfl dX2_has_8 ?_
    refine lv_iload_n hx hb dX2_has_11 rfl (lv_at hl 1 rfl) ?_
    refine va_iald hx hb hK hP 1 1 rfl rfl (ti_in (a := p0.toInt) rfl (by omega) (by omega)) dX2_has_12 ?_
    refine lv_topi (fun z_4 ez_4 => ?_)
    obtain rfl : z_4 = 0 := ez_4
    refine kc_i (wr := [(h0, .inr (2, [.ref h1, g0, g1])), (h1, .inl (cI, 300, .inl zf))]) (va_runSN (As := [.int 0]) (rest := []) ⟨hx, hb, hml, hown, hts⟩ (K105_X7_isOfLog l D cB cI cZ _ ) ⟨va_cnB 1 hts gX2_has_X7_isOfLog_n26 rfl rfl rfl (hN.m (a := RX2) (i := 26) (y := yX7_isOfLog) (by decide +kernel)) (hts _ wdX2_has_0) (by decide +kernel) ⟨Nat.le_of_ble_eq_true rfl, Nat.le_of_ble_eq_true rfl⟩, hts _ wdX2_has_3, trivial⟩ (pre_S (hP.sub [] rfl) hK hN (hD.sub [] (by decide) rfl)) rfl rfl hl.1 rfl (lv_room (Nat.le_of_ble_eq_true rfl)) dX2_has_13 ⟨Nat.le_of_ble_eq_true rfl, Nat.le_of_ble_eq_true rfl⟩) hP hD hS hA [] [0, 1] rfl rfl (by decide) (by decide) (fun r_5 u H locs hw hP hD hS => ?_)
    have k_6 := hw
    obtain rfl : r_5 = 0 := k_6
    have hP : va_P D vwCl [(h0, .inr (2, [.ref h1, g0, g1])), (h1, .inl (cI, 300, .inl zf))] H := hP
    have hD : va_D A [(h0, .inr (2, [.ref h1, g0, g1])), (h1, .inl (cI, 300, .inl zf))] := hD
    refine lv_if_eq (tgt := 23) hx hb dX2_has_16 (by decide) (fun c => ?_) (fun c => absurd (by decide) c)
    refine lv_iconst (v := 0) hx hb dX2_has_23 (by decide) ?_
    exact kr_z () hx hb hr rfl hlocks hP hD hS rfl dX2_has_24
set_option maxHeartbeats 4000000 in
set_option maxRecDepth 100000 in
theorem K134_X2_has (l : Launch) (D : va_G) (cB cI cZ : ClassId) (sz : Nat) (h0 : Nat) (h1 : Nat)  (p0 : Int32) (g0 : Value) (g1 : Value) (i_p0 : 0 ≤ p0.toInt ∧ p0.toInt ≤ 299) :
    CtI l D cB cI cZ yX2_has wsX2_has { frames := 1, cells := 0, slots := 0, locals := 20 } [.ref h0, .int p0] [(h0, .inr (2, [.ref h1, g0, g1])), (h1, .inl (cI, 300, .inl zf))] sz 0 0
      (fun (r : Int32) (u : Unit) => r = 0)
      (fun u => [(h0, .inr (2, [.ref h1, g0, g1])), (h1, .inl (cI, 300, .inl zf))]) := by
  refine mk_metI (cc := cX2_has) (maxL := 2) (ret := (some .boolean)) (by decide) rfl (Nat.le_of_ble_eq_true rfl) ?_
  intro p e s m below meth c A hx hb hr hml hts hown hlocks hin hP hK hN hD hA hS ls hl
  have hown : s.vm.findClass RX2 = some m.cls := hown
  have hl : lv_has ls 2 [(0, .ref h0), (1, .int p0)] := hl
  refine lv_iload_n hx hb dX2_has_0 rfl (lv_at hl 1 rfl) ?_
  refine kc_i (wr := [(h0, .inr (2, [.ref h1, g0, g1])), (h1, .inl (cI, 300, .inl zf))]) (va_runSN (As := [.int p0]) (rest := []) ⟨hx, hb, hml, hown, hts⟩ (K47_X7_isKey l D cB cI cZ _ p0 ⟨by omega, by omega⟩) ⟨va_cnB 1 hts gX2_has_X7_isKey_n22 rfl rfl rfl (hN.m (a := RX2) (i := 22) (y := yX7_isKey) (by decide +kernel)) (hts _ wdX2_has_0) (by decide +kernel) ⟨Nat.le_of_ble_eq_true rfl, Nat.le_of_ble_eq_true rfl⟩, hts _ wdX2_has_1, trivial⟩ (pre_S (hP.sub [] rfl) hK hN (hD.sub [] (by decide) rfl)) rfl rfl hl.1 rfl (lv_room (Nat.le_of_ble_eq_true rfl)) dX2_has_1 ⟨Nat.le_of_ble_eq_true rfl, Nat.le_of_ble_eq_true rfl⟩) hP hD hS hA [] [0, 1] rfl rfl (by decide) (by decide) (fun r_1 u H locs hw hP hD hS => ?_)
  have k_2 := hw
  obtain rfl : r_1 = 1 := k_2
  have hP : va_P D vwCl [(h0, .inr (2, [.ref h1, g0, g1])), (h1, .inl (cI, 300, .inl zf))] H := hP
  have hD : va_D A [(h0, .inr (2, [.ref h1, g0, g1])), (h1, .inl (cI, 300, .inl zf))] := hD
  refine lv_if_eq (tgt := 23) hx hb dX2_has_4 (by decide) (fun c => absurd c (by decide)) (fun c => ?_)
  refine lv_aload_n hx hb dX2_has_7 rfl (lv_at hl 0 rfl) ?_
  refine va_get (D := D) (ci := 2) (v := .ref h1) (C := RX2) (T := TX2) (N := 3) hx hb hts inX2_has_X2 hown hK hP 0 rfl rfl 0 (by decide) (hts _ wdX2_has_2) (fun _ h9 => h9) rfl dX2_has_8 ?_
  refine lv_iload_n hx hb dX2_has_11 rfl (lv_at hl 1 rfl) ?_
  refine va_iald hx hb hK hP 1 1 rfl rfl (ti_in (a := p0.toInt) rfl (by omega) (by omega)) dX2_has_12 ?_
  refine lv_topi (fun z_3 ez_3 => ?_)
  obtain rfl : z_3 = 0 := ez_3
  refine kc_i (wr := [(h0, .inr (2, [.ref h1, g0, g1])), (h1, .inl (cI, 300, .inl zf))]) (va_runSN (As := [.int 0]) (rest := []) ⟨hx, hb, hml, hown, hts⟩ (K105_X7_isOfLog l D cB cI cZ _ ) ⟨va_cnB 1 hts gX2_has_X7_isOfLog_n26 rfl rfl rfl (hN.m (a := RX2) (i := 26) (y := yX7_isOfLog) (by decide +kernel)) (hts _ wdX2_has_0) (by decide +kernel) ⟨Nat.le_of_ble_eq_true rfl, Nat.le_of_ble_eq_true rfl⟩, hts _ wdX2_has_3, trivial⟩ (pre_S (hP.sub [] rfl) hK hN (hD.sub [] (by decide) rfl)) rfl rfl hl.1 rfl (lv_room (Nat.le_of_ble_eq_true rfl)) dX2_has_13 ⟨Nat.le_of_ble_eq_true rfl, Nat.le_of_ble_eq_true rfl⟩) hP hD hS hA [] [0, 1] rfl rfl (by decide) (by decide) (fun r_4 u H locs hw hP hD hS => ?_)
  have k_5 := hw
  obtain rfl : r_4 = 0 := k_5
  have hP : va_P D vwCl [(h0, .inr (2, [.ref h1, g0, g1])), (h1, .inl (cI, 300, .inl zf))] H := hP
  have hD : va_D A [(h0, .inr (2, [.ref h1, g0, g1])), (h1, .inl (cI, 300, .inl zf))] := hD
  refine lv_if_eq (tgt := 23) hx hb dX2_has_16 (by decide) (fun c => ?_) (fun c => absurd (by decide) c)
  refine lv_iconst (v := 0) hx hb dX2_has_23 (by decide) ?_
  exact kr_z () hx hb hr rfl hlocks hP hD hS rfl dX2_has_24
set_option maxHeartbeats 4000000 in
set_option maxRecDepth 100000 in
theorem K192_X8_in (l : Launch) (D : va_G) (cB cI cZ : ClassId) (sz : Nat)   (p0 : Int32) (i_p0 : 0 ≤ p0.toInt ∧ p0.toInt ≤ 63) :
    CtI l D cB cI cZ yX8_in wsX8_in { frames := 0, cells := 0, slots := 0, locals := 0 } [.int p0, .int 0, .int 63] [] sz 0 0
      (fun (r : Int32) (u : Unit) => r = 1)
      (fun u => []) := by
  refine mk_metI (cc := cX8_in) (maxL := 3) (ret := (some .boolean)) (by decide) rfl (Nat.le_of_ble_eq_true rfl) ?_
  intro p e s m below meth c A hx hb hr hml hts hown hlocks hin hP hK hN hD hA hS ls hl
  have hown : s.vm.findClass RX8 = some m.cls := hown
  have hl : lv_has ls 3 [(0, .int p0), (1, .int 0), (2, .int 63)] := hl
  refine lv_iload_n hx hb dX8_in_0 rfl (lv_at hl 0 rfl) ?_
  refine lv_iload_n hx hb dX8_in_1 rfl (lv_at hl 1 rfl) ?_
  refine lv_icmp_lt (tgt := 14) hx hb dX8_in_2 (by decide) (fun c => absurd ((ti_lt (x := p0) (y := 0) (a := p0.toInt) (b := 0) rfl (by decide)).mp c) (by omega)) (fun c => ?_)
  refine lv_iload_n hx hb dX8_in_5 rfl (lv_at hl 0 rfl) ?_
  refine lv_iload_n hx hb dX8_in_6 rfl (lv_at hl 2 rfl) ?_
  refine lv_icmp_gt (tgt := 14) hx hb dX8_in_7 (by decide) (fun c => absurd ((ti_lt (x := 63) (y := p0) (a := 63) (b := p0.toInt) (by decide) rfl).mp c) (by omega)) (fun c => ?_)
  refine lv_iconst (v := 1) hx hb dX8_in_10 (by decide) ?_
  refine lv_goto (tgt := 15) hx hb dX8_in_11 (by decide) ?_
  exact kr_z () hx hb hr rfl hlocks hP hD hS rfl dX8_in_15
set_option maxHeartbeats 4000000 in
set_option maxRecDepth 100000 in
theorem K206_X4_number (l : Launch) (D : va_G) (cB cI cZ : ClassId) (sz : Nat) (h0 : Nat)  (p0 : Int32) (i_p0 : 0 ≤ p0.toInt ∧ p0.toInt ≤ 65535) :
    CtI l D cB cI cZ yX4_number wsX4_number { frames := 1, cells := 0, slots := 0, locals := 22 } [.ref h0, .int p0, .int 1] [(h0, .inl (cB, 65536, .inl zf))] sz 0 0
      (fun (r : Int32) (u : Unit) => r = 0)
      (fun u => [(h0, .inl (cB, 65536, .inl zf))]) := by
  refine mk_metI (cc := cX4_number) (maxL := 5) (ret := (some .int)) (by decide) rfl (Nat.le_of_ble_eq_true rfl) ?_
  intro p e s m below meth c A hx hb hr hml hts hown hlocks hin hP hK hN hD hA hS ls hl
  have hown : s.vm.findClass RX4 = some m.cls := hown
  have hl : lv_has ls 5 [(0, .ref h0), (1, .int p0), (2, .int 1)] := hl
  refine lv_aload_n hx hb dX4_number_0 rfl (lv_at hl 0 rfl) ?_
  refine lv_iload_n hx hb dX4_number_1 rfl (lv_at hl 1 rfl) ?_
  refine lv_iload_n hx hb dX4_number_2 rfl (lv_at hl 2 rfl) ?_
  refine kc_i (wr := []) (va_runS (As := [.ref h0, .int p0, .int 1]) (rest := []) ⟨hx, hb, hml, hown, hts⟩ (K60_X4_isWithin l D cB cI cZ _ h0 p0 ⟨by omega, by omega⟩) (va_cwS 3 hts gX4_number_X4_isWithin rfl rfl rfl (by decide +kernel) ⟨Nat.le_of_ble_eq_true rfl, Nat.le_of_ble_eq_true rfl⟩) (pre_S (hP.sub [0] rfl) hK hN (hD.sub [0] (by decide) rfl)) rfl rfl hl.1 rfl (lv_room (Nat.le_of_ble_eq_true rfl)) dX4_number_3 ⟨Nat.le_of_ble_eq_true rfl, Nat.le_of_ble_eq_true rfl⟩) hP hD hS hA [0] [] rfl rfl (by decide) (by decide) (fun r_1 u H locs hw hP hD hS => ?_)
  have k_2 := hw
  obtain rfl : r_1 = 1 := k_2
  have hP : va_P D vwCl [(h0, .inl (cB, 65536, .inl zf))] H := hP
  have hD : va_D A [(h0, .inl (cB, 65536, .inl zf))] := hD
  refine lv_if_ne (tgt := 11) hx hb dX4_number_6 (by decide) (fun c => ?_) (fun c => absurd c (by decide))
  refine lv_iconst (v := 0) hx hb dX4_number_11 (by decide) ?_
  refine lv_istore_n (lv' := [(3, .int 0), (0, .ref h0), (1, .int p0), (2, .int 1)]) hx hb dX4_number_12 rfl hl (by decide) rfl (fun ls hl => ?_)
  refine lv_iload_n hx hb dX4_number_13 rfl (lv_at hl 2 rfl) ?_
  refine lv_istore (lv' := [(4, .int p0), (3, .int 0), (0, .ref h0), (1, .int p0), (2, .int 1)]) hx hb dX4_number_14 hl (by decide) rfl (fun ls hl => ?_)
  refine lv_iload hx hb dX4_number_16 (lv_at hl 0 rfl) ?_
  refine lv_iload_n hx hb dX4_number_18 rfl (lv_at hl 3 rfl) ?_
  refine lv_iload_n hx hb dX4_number_19 rfl (lv_at hl 4 rfl) ?_
  refine lv_iadd hx hb dX4_number_20 ?_
  refine lv_topi (fun x_3 ex_3 => ?_)
  have tx_3 : x_3.toInt = p0.toInt + 1 := by rw [ex_3]; exact ti_add rfl (by decide) (by omega) (by omega)
  refine lv_icmp_ge (tgt := 44) hx hb dX4_number_21 (by decide) (fun c => absurd ((ti_le (x := x_3) (y := p0) (a := x_3.toInt) (b := p0.toInt) rfl rfl).mp c) (by omega)) (fun c => ?_)
  refine lv_iload_n hx hb dX4_number_24 rfl (lv_at hl 1 rfl) ?_
  refine lv_bipush (v := 8) hx hb dX4_number_25 (by decide) ?_
  refine lv_ishl hx hb dX4_number_27 ?_
  refine lv_topi (fun z_4 ez_4 => ?_)
  obtain rfl : z_4 = 0 := ez_4.trans (by decide)
  refine lv_aload_n hx hb dX4_number_28 rfl (lv_at hl 2 rfl) ?_
  refine lv_iload hx hb dX4_number_29 (lv_at hl 0 rfl) ?_
  refine va_bald hx hb hK hP 0 0 rfl rfl (ti_in (a := p0.toInt) rfl (by omega) (by omega)) dX4_number_31 ?_
  refine lv_topi (fun z_5 ez_5 => ?_)
  obtain rfl : z_5 = 0 := ez_5
  refine lv_sipush (v := 255) hx hb dX4_number_32 (by decide) ?_
  refine lv_iand hx hb dX4_number_35 ?_
  refine lv_topi (fun z_6 ez_6 => ?_)
  obtain rfl : z_6 = 0 := ez_6.trans (by decide)
  refine lv_ior hx hb dX4_number_36 ?_
  refine lv_topi (fun z_7 ez_7 => ?_)
  obtain rfl : z_7 = 0 := ez_7.trans (by decide)
  refine lv_istore_n (lv' := [(3, .int 0), (4, .int p0), (0, .ref h0), (1, .int p0), (2, .int 1)]) hx hb dX4_number_37 rfl hl (by decide) rfl (fun ls hl => ?_)
  obtain ⟨x_8, ex_8⟩ : ∃ y : Int32, y = p0 + 1 := ⟨_, rfl⟩
  have tx_8 : x_8.toInt = p0.toInt + 1 := by rw [ex_8]; exact ti_add rfl (by decide) (by omega) (by omega)
  refine lv_iinc (v := x_8) (lv' := [(4, .int x_8), (3, .int 0), (0, .ref h0), (1, .int p0), (2, .int 1)]) hx hb dX4_number_38 hl (k := 1) rfl (by rw [ex_8]; rfl) (by decide) rfl (fun ls hl => ?_)
  refine lv_goto (tgt := 16) hx hb dX4_number_41 (by decide) ?_
  refine lv_iload hx hb dX4_number_16 (lv_at hl 0 rfl) ?_
  refine lv_iload_n hx hb dX4_number_18 rfl (lv_at hl 3 rfl) ?_
  refine lv_iload_n hx hb dX4_number_19 rfl (lv_at hl 4 rfl) ?_
  refine lv_iadd hx hb dX4_number_20 ?_
  refine lv_topi (fun x_9 ex_9 => ?_)
  have tx_9 : x_9.toInt = p0.toInt + 1 := by rw [ex_9]; exact ti_add rfl (by decide) (by omega) (by omega)
  refine lv_icmp_ge (tgt := 44) hx hb dX4_number_21 (by decide) (fun c => ?_) (fun c => absurd ((ti_le (x := x_9) (y := x_8) (a := x_9.toInt) (b := x_8.toInt) rfl rfl).mpr (by omega)) c)
  refine lv_iload_n hx hb dX4_number_44 rfl (lv_at hl 1 rfl) ?_
  exact kr_i () hx hb hr hlocks hP hD hS rfl dX4_number_45
set_option maxHeartbeats 4000000 in
set_option maxRecDepth 100000 in
theorem K242_X8_in (l : Launch) (D : va_G) (cB cI cZ : ClassId) (sz : Nat)   (p0 : Int32) (i_p0 : 0 ≤ p0.toInt ∧ p0.toInt ≤ 1023) :
    CtI l D cB cI cZ yX8_in wsX8_in { frames := 0, cells := 0, slots := 0, locals := 0 } [.int p0, .int 0, .int 1023] [] sz 0 0
      (fun (r : Int32) (u : Unit) => r = 1)
      (fun u => []) := by
  refine mk_metI (cc := cX8_in) (maxL := 3) (ret := (some .boolean)) (by decide) rfl (Nat.le_of_ble_eq_true rfl) ?_
  intro p e s m below meth c A hx hb hr hml hts hown hlocks hin hP hK hN hD hA hS ls hl
  have hown : s.vm.findClass RX8 = some m.cls := hown
  have hl : lv_has ls 3 [(0, .int p0), (1, .int 0), (2, .int 1023)] := hl
  refine lv_iload_n hx hb dX8_in_0 rfl (lv_at hl 0 rfl) ?_
  refine lv_iload_n hx hb dX8_in_1 rfl (lv_at hl 1 rfl) ?_
  refine lv_icmp_lt (tgt := 14) hx hb dX8_in_2 (by decide) (fun c => absurd ((ti_lt (x := p0) (y := 0) (a := p0.toInt) (b := 0) rfl (by decide)).mp c) (by omega)) (fun c => ?_)
  refine lv_iload_n hx hb dX8_in_5 rfl (lv_at hl 0 rfl) ?_
  refine lv_iload_n hx hb dX8_in_6 rfl (lv_at hl 2 rfl) ?_
  refine lv_icmp_gt (tgt := 14) hx hb dX8_in_7 (by decide) (fun c => absurd ((ti_lt (x := 1023) (y := p0) (a := 1023) (b := p0.toInt) (by decide) rfl).mp c) (by omega)) (fun c => ?_)
  refine lv_iconst (v := 1) hx hb dX8_in_10 (by decide) ?_
  refine lv_goto (tgt := 15) hx hb dX8_in_11 (by decide) ?_
  exact kr_z () hx hb hr rfl hlocks hP hD hS rfl dX8_in_15
set_option maxHeartbeats 4000000 in
set_option maxRecDepth 100000 in
theorem K243_X8_at (l : Launch) (D : va_G) (cB cI cZ : ClassId) (sz : Nat)   (p0 : Int32) (p1 : Int32) (i_p0 : 0 ≤ p0.toInt ∧ p0.toInt ≤ 63) (i_p1 : 0 ≤ p1.toInt ∧ p1.toInt ≤ 1023) :
    CtI l D cB cI cZ yX8_at wsX8_at { frames := 0, cells := 0, slots := 0, locals := 0 } [.int p0, .int p1] [] sz 0 0
      (fun (r : Int32) (u : Unit) => 0 ≤ r.toInt ∧ r.toInt ≤ 65535 ∧ (r.toInt = 1024 * p0.toInt + p1.toInt))
      (fun u => []) := by
  refine mk_metI (cc := cX8_at) (maxL := 2) (ret := (some .int)) (by decide) rfl (Nat.le_of_ble_eq_true rfl) ?_
  intro p e s m below meth c A hx hb hr hml hts hown hlocks hin hP hK hN hD hA hS ls hl
  have hown : s.vm.findClass RX8 = some m.cls := hown
  have hl : lv_has ls 2 [(0, .int p0), (1, .int p1)] := hl
  refine lv_sipush (v := 1024) hx hb dX8_at_0 (by decide) ?_
  refine lv_iload_n hx hb dX8_at_3 rfl (lv_at hl 0 rfl) ?_
  refine lv_imul hx hb dX8_at_4 ?_
  refine lv_topi (fun x_1 ex_1 => ?_)
  have tx_1 : x_1.toInt = 1024 * p0.toInt := by rw [ex_1]; exact ti_mul (by decide) rfl (by omega) (by omega)
  refine lv_iload_n hx hb dX8_at_5 rfl (lv_at hl 1 rfl) ?_
  refine lv_iadd hx hb dX8_at_6 ?_
  refine lv_topi (fun x_2 ex_2 => ?_)
  have tx_2 : x_2.toInt = x_1.toInt + p1.toInt := by rw [ex_2]; exact ti_add rfl rfl (by omega) (by omega)
  exact kr_i () hx hb hr hlocks hP hD hS ⟨(by omega), (by omega), (by omega)⟩ dX8_at_7
set_option maxHeartbeats 4000000 in
set_option maxRecDepth 100000 in
theorem K260_X4_number (l : Launch) (D : va_G) (cB cI cZ : ClassId) (sz : Nat) (h0 : Nat)  (p0 : Int32) (f0 : Nat → Int32) (i_p0 : 0 ≤ p0.toInt ∧ p0.toInt ≤ 65535) (b_f0 : FB f0) :
    CtI l D cB cI cZ yX4_number wsX4_number { frames := 1, cells := 0, slots := 0, locals := 22 } [.ref h0, .int p0, .int 1] [(h0, .inl (cB, 65536, .inl f0))] sz 0 0
      (fun (r : Int32) (u : Unit) => (r = 0 ||| (f0 (Int32.toNatClampNeg p0) &&& 255)))
      (fun u => [(h0, .inl (cB, 65536, .inl f0))]) := by
  refine mk_metI (cc := cX4_number) (maxL := 5) (ret := (some .int)) (by decide) rfl (Nat.le_of_ble_eq_true rfl) ?_
  intro p e s m below meth c A hx hb hr hml hts hown hlocks hin hP hK hN hD hA hS ls hl
  have hown : s.vm.findClass RX4 = some m.cls := hown
  have hl : lv_has ls 5 [(0, .ref h0), (1, .int p0), (2, .int 1)] := hl
  refine lv_aload_n hx hb dX4_number_0 rfl (lv_at hl 0 rfl) ?_
  refine lv_iload_n hx hb dX4_number_1 rfl (lv_at hl 1 rfl) ?_
  refine lv_iload_n hx hb dX4_number_2 rfl (lv_at hl 2 rfl) ?_
  refine kc_i (wr := []) (va_runS (As := [.ref h0, .int p0, .int 1]) (rest := []) ⟨hx, hb, hml, hown, hts⟩ (K62_X4_isWithin l D cB cI cZ _ h0 p0 f0 ⟨by omega, by omega⟩ b_f0) (va_cwS 3 hts gX4_number_X4_isWithin rfl rfl rfl (by decide +kernel) ⟨Nat.le_of_ble_eq_true rfl, Nat.le_of_ble_eq_true rfl⟩) (pre_S (hP.sub [0] rfl) hK hN (hD.sub [0] (by decide) rfl)) rfl rfl hl.1 rfl (lv_room (Nat.le_of_ble_eq_true rfl)) dX4_number_3 ⟨Nat.le_of_ble_eq_true rfl, Nat.le_of_ble_eq_true rfl⟩) hP hD hS hA [0] [] rfl rfl (by decide) (by decide) (fun r_1 u H locs hw hP hD hS => ?_)
  have k_2 := hw
  obtain rfl : r_1 = 1 := k_2
  have hP : va_P D vwCl [(h0, .inl (cB, 65536, .inl f0))] H := hP
  have hD : va_D A [(h0, .inl (cB, 65536, .inl f0))] := hD
  refine lv_if_ne (tgt := 11) hx hb dX4_number_6 (by decide) (fun c => ?_) (fun c => absurd c (by decide))
  refine lv_iconst (v := 0) hx hb dX4_number_11 (by decide) ?_
  refine lv_istore_n (lv' := [(3, .int 0), (0, .ref h0), (1, .int p0), (2, .int 1)]) hx hb dX4_number_12 rfl hl (by decide) rfl (fun ls hl => ?_)
  refine lv_iload_n hx hb dX4_number_13 rfl (lv_at hl 2 rfl) ?_
  refine lv_istore (lv' := [(4, .int p0), (3, .int 0), (0, .ref h0), (1, .int p0), (2, .int 1)]) hx hb dX4_number_14 hl (by decide) rfl (fun ls hl => ?_)
  refine lv_iload hx hb dX4_number_16 (lv_at hl 0 rfl) ?_
  refine lv_iload_n hx hb dX4_number_18 rfl (lv_at hl 3 rfl) ?_
  refine lv_iload_n hx hb dX4_number_19 rfl (lv_at hl 4 rfl) ?_
  refine lv_iadd hx hb dX4_number_20 ?_
  refine lv_topi (fun x_3 ex_3 => ?_)
  have tx_3 : x_3.toInt = p0.toInt + 1 := by rw [ex_3]; exact ti_add rfl (by decide) (by omega) (by omega)
  refine lv_icmp_ge (tgt := 44) hx hb dX4_number_21 (by decide) (fun c => absurd ((ti_le (x := x_3) (y := p0) (a := x_3.toInt) (b := p0.toInt) rfl rfl).mp c) (by omega)) (fun c => ?_)
  refine lv_iload_n hx hb dX4_number_24 rfl (lv_at hl 1 rfl) ?_
  refine lv_bipush (v := 8) hx hb dX4_number_25 (by decide) ?_
  refine lv_ishl hx hb dX4_number_27 ?_
  refine lv_topi (fun z_4 ez_4 => ?_)
  obtain rfl : z_4 = 0 := ez_4.trans (by decide)
  refine lv_aload_n hx hb dX4_number_28 rfl (lv_at hl 2 rfl) ?_
  refine lv_iload hx hb dX4_number_29 (lv_at hl 0 rfl) ?_
  refine va_bald hx hb hK hP 0 0 rfl rfl (ti_in (a := p0.toInt) rfl (by omega) (by omega)) dX4_number_31 ?_
  refine lv_topi (fun x_5 ex_5 => ?_)
  refine lv_sipush (v := 255) hx hb dX4_number_32 (by decide) ?_
  refine lv_iand hx hb dX4_number_35 ?_
  refine lv_topi (fun x_6 ex_6 => ?_)
  refine lv_ior hx hb dX4_number_36 ?_
  refine lv_topi (fun x_7 ex_7 => ?_)
  refine lv_istore_n (lv' := [(3, .int x_7), (4, .int p0), (0, .ref h0), (1, .int p0), (2, .int 1)]) hx hb dX4_number_37 rfl hl (by decide) rfl (fun ls hl => ?_)
  obtain ⟨x_8, ex_8⟩ : ∃ y : Int32, y = p0 + 1 := ⟨_, rfl⟩
  have tx_8 : x_8.toInt = p0.toInt + 1 := by rw [ex_8]; exact ti_add rfl (by decide) (by omega) (by omega)
  refine lv_iinc (v := x_8) (lv' := [(4, .int x_8), (3, .int x_7), (0, .ref h0), (1, .int p0), (2, .int 1)]) hx hb dX4_number_38 hl (k := 1) rfl (by rw [ex_8]; rfl) (by decide) rfl (fun ls hl => ?_)
  refine lv_goto (tgt := 16) hx hb dX4_number_41 (by decide) ?_
  refine lv_iload hx hb dX4_number_16 (lv_at hl 0 rfl) ?_
  refine lv_iload_n hx hb dX4_number_18 rfl (lv_at hl 3 rfl) ?_
  refine lv_iload_n hx hb dX4_number_19 rfl (lv_at hl 4 rfl) ?_
  refine lv_iadd hx hb dX4_number_20 ?_
  refine lv_topi (fun x_9 ex_9 => ?_)
  have tx_9 : x_9.toInt = p0.toInt + 1 := by rw [ex_9]; exact ti_add rfl (by decide) (by omega) (by omega)
  refine lv_icmp_ge (tgt := 44) hx hb dX4_number_21 (by decide) (fun c => ?_) (fun c => absurd ((ti_le (x := x_9) (y := x_8) (a := x_9.toInt) (b := x_8.toInt) rfl rfl).mpr (by omega)) c)
  refine lv_iload_n hx hb dX4_number_44 rfl (lv_at hl 1 rfl) ?_
  exact kr_i () hx hb hr hlocks hP hD hS (by rw [ex_7, ex_6, ex_5]) dX4_number_45
set_option maxHeartbeats 4000000 in
set_option maxRecDepth 100000 in
theorem K259_X1_flip (l : Launch) (D : va_G) (cB cI cZ : ClassId) (sz : Nat) (h0 : Nat) (h1 : Nat)  (p0 : Int32) (p1 : Int32) (g0 : Value) (g1 : Value) (g2 : Value) (g3 : Value) (i_p0 : 0 ≤ p0.toInt ∧ p0.toInt ≤ 65535) (i_p1 : 0 ≤ p1.toInt ∧ p1.toInt ≤ 255) :
    CtI l D cB cI cZ yX1_flip wsX1_flip { frames := 2, cells := 0, slots := 0, locals := 47 } [.ref h0, .int p0, .int p1] [(h0, .inr (1, [.ref h1, g0, g1, g2, g3])), (h1, .inl (cB, 65536, .inl zf))] sz 0 0
      (fun (r : Int32) (u : (Nat → Int32)) => r.toInt = p1.toInt + 0 ∧ FB u)
      (fun u => [(h0, .inr (1, [.ref h1, g0, g1, g2, g3])), (h1, .inl (cB, 65536, .inl u))]) := by
  refine mk_metI (cc := cX1_flip) (maxL := 3) (ret := (some .int)) (by decide) rfl (Nat.le_of_ble_eq_true rfl) ?_
  intro p e s m below meth c A hx hb hr hml hts hown hlocks hin hP hK hN hD hA hS ls hl
  have hown : s.vm.findClass RX1 = some m.cls := hown
  have hl : lv_has ls 3 [(0, .ref h0), (1, .int p0), (2, .int p1)] := hl
  refine lv_aload_n hx hb dX1_flip_0 rfl (lv_at hl 0 rfl) ?_
  refine va_get (D := D) (ci := 1) (v := .ref h1) (C := RX1) (T := TX1) (N := 5) hx hb hts inX1_flip_X1 hown hK hP 0 rfl rfl 0 (by decide) (hts _ wdX1_flip_0) (fun _ h9 => h9) rfl dX1_flip_1 ?_
  refine lv_iload_n hx hb dX1_flip_4 rfl (lv_at hl 1 rfl) ?_
  refine lv_iconst (v := 1) hx hb dX1_flip_5 (by decide) ?_
  refine lv_aload_n hx hb dX1_flip_6 rfl (lv_at hl 0 rfl) ?_
  refine va_get (D := D) (ci := 1) (v := .ref h1) (C := RX1) (T := TX1) (N := 5) hx hb hts inX1_flip_X1 hown hK hP 0 rfl rfl 0 (by decide) (hts _ wdX1_flip_0) (fun _ h9 => h9) rfl dX1_flip_7 ?_
  refine lv_iload_n hx hb dX1_flip_10 rfl (lv_at hl 1 rfl) ?_
  refine lv_iconst (v := 1) hx hb dX1_flip_11 (by decide) ?_
  refine kc_i (wr := [(h0, .inr (1, [.ref h1, g0, g1, g2, g3]))]) (va_runS (As := [.ref h1, .int p0, .int 1]) (rest := [.int 1, .int p0, .ref h1]) ⟨hx, hb, hml, hown, hts⟩ (K206_X4_number l D cB cI cZ _ h1 p0 ⟨by omega, by omega⟩) (va_cwS 3 hts gX1_flip_X4_number rfl rfl rfl (by decide +kernel) ⟨Nat.le_of_ble_eq_true rfl, Nat.le_of_ble_eq_true rfl⟩) (pre_S (hP.sub [1] rfl) hK hN (hD.sub [1] (by decide) rfl)) rfl rfl hl.1 rfl (lv_room (Nat.le_of_ble_eq_true rfl)) dX1_flip_12 ⟨Nat.le_of_ble_eq_true rfl, Nat.le_of_ble_eq_true rfl⟩) hP hD hS hA [1] [0] rfl rfl (by decide) (by decide) (fun r_1 u H locs hw hP hD hS => ?_)
  have k_2 := hw
  obtain rfl : r_1 = 0 := k_2
  have hP : va_P D vwCl [(h0, .inr (1, [.ref h1, g0, g1, g2, g3])), (h1, .inl (cB, 65536, .inl zf))] H := hP
  have hD : va_D A [(h0, .inr (1, [.ref h1, g0, g1, g2, g3])), (h1, .inl (cB, 65536, .inl zf))] := hD
  refine lv_iload_n hx hb dX1_flip_15 rfl (lv_at hl 2 rfl) ?_
  refine lv_ixor hx hb dX1_flip_16 ?_
  refine lv_topi (fun x_3 ex_3 => ?_)
  refine kc_v (wr := [(h0, .inr (1, [.ref h1, g0, g1, g2, g3]))]) (va_runS (As := [.ref h1, .int p0, .int 1, .int x_3]) (rest := []) ⟨hx, hb, hml, hown, hts⟩ (K59_X4_setNumber l D cB cI cZ _ h1 p0 x_3 ⟨by omega, by omega⟩) (va_cwS 4 hts gX1_flip_X4_setNumber rfl rfl rfl (by decide +kernel) ⟨Nat.le_of_ble_eq_true rfl, Nat.le_of_ble_eq_true rfl⟩) (pre_S (hP.sub [1] rfl) hK hN (hD.sub [1] (by decide) rfl)) rfl rfl hl.1 rfl (lv_room (Nat.le_of_ble_eq_true rfl)) dX1_flip_17 ⟨Nat.le_of_ble_eq_true rfl, Nat.le_of_ble_eq_true rfl⟩) hP hD hS hA [1] [0] rfl rfl (by decide) (by decide) (fun  u H locs hw hP hD hS => ?_)
  obtain ⟨f_4, rfl⟩ : ∃ z, z = u := ⟨_, rfl⟩
  obtain ⟨bf_4, ek_5⟩ := hw
  have bf_4 : FB f_4 := bf_4
  have hP : va_P D vwCl [(h0, .inr (1, [.ref h1, g0, g1, g2, g3])), (h1, .inl (cB, 65536, .inl f_4))] H := hP
  have hD : va_D A [(h0, .inr (1, [.ref h1, g0, g1, g2, g3])), (h1, .inl (cB, 65536, .inl f_4))] := hD
  refine lv_aload_n hx hb dX1_flip_20 rfl (lv_at hl 0 rfl) ?_
  refine va_get (D := D) (ci := 1) (v := .ref h1) (C := RX1) (T := TX1) (N := 5) hx hb hts inX1_flip_X1 hown hK hP 0 rfl rfl 0 (by decide) (hts _ wdX1_flip_0) (fun _ h9 => h9) rfl dX1_flip_21 ?_
  refine lv_iload_n hx hb dX1_flip_24 rfl (lv_at hl 1 rfl) ?_
  refine lv_iconst (v := 1) hx hb dX1_flip_25 (by decide) ?_
  refine kc_i (wr := [(h0, .inr (1, [.ref h1, g0, g1, g2, g3]))]) (va_runS (As := [.ref h1, .int p0, .int 1]) (rest := []) ⟨hx, hb, hml, hown, hts⟩ (K260_X4_number l D cB cI cZ _ h1 p0 f_4 ⟨by omega, by omega⟩ bf_4) (va_cwS 3 hts gX1_flip_X4_number rfl rfl rfl (by decide +kernel) ⟨Nat.le_of_ble_eq_true rfl, Nat.le_of_ble_eq_true rfl⟩) (pre_S (hP.sub [1] rfl) hK hN (hD.sub [1] (by decide) rfl)) rfl rfl hl.1 rfl (lv_room (Nat.le_of_ble_eq_true rfl)) dX1_flip_26 ⟨Nat.le_of_ble_eq_true rfl, Nat.le_of_ble_eq_true rfl⟩) hP hD hS hA [1] [0] rfl rfl (by decide) (by decide) (fun r_6 u H locs hw hP hD hS => ?_)
  have ek_7 := hw
  have hP : va_P D vwCl [(h0, .inr (1, [.ref h1, g0, g1, g2, g3])), (h1, .inl (cB, 65536, .inl f_4))] H := hP
  have hD : va_D A [(h0, .inr (1, [.ref h1, g0, g1, g2, g3])), (h1, .inl (cB, 65536, .inl f_4))] := hD
  exact kr_i f_4 hx hb hr hlocks hP hD hS ⟨(by have h9 : r_6 = p1 := (by rw [ek_7, ek_5, pk_us, ex_3]; exact fl_1 (by omega) (by omega)); rw [h9]; omega), bf_4⟩ dX1_flip_29
set_option maxHeartbeats 4000000 in
set_option maxRecDepth 100000 in
theorem K262_X8_in (l : Launch) (D : va_G) (cB cI cZ : ClassId) (sz : Nat)   (p0 : Int32) (i_p0 : 0 ≤ p0.toInt ∧ p0.toInt ≤ 255) :
    CtI l D cB cI cZ yX8_in wsX8_in { frames := 0, cells := 0, slots := 0, locals := 0 } [.int p0, .int 0, .int 255] [] sz 0 0
      (fun (r : Int32) (u : Unit) => r = 1)
      (fun u => []) := by
  refine mk_metI (cc := cX8_in) (maxL := 3) (ret := (some .boolean)) (by decide) rfl (Nat.le_of_ble_eq_true rfl) ?_
  intro p e s m below meth c A hx hb hr hml hts hown hlocks hin hP hK hN hD hA hS ls hl
  have hown : s.vm.findClass RX8 = some m.cls := hown
  have hl : lv_has ls 3 [(0, .int p0), (1, .int 0), (2, .int 255)] := hl
  refine lv_iload_n hx hb dX8_in_0 rfl (lv_at hl 0 rfl) ?_
  refine lv_iload_n hx hb dX8_in_1 rfl (lv_at hl 1 rfl) ?_
  refine lv_icmp_lt (tgt := 14) hx hb dX8_in_2 (by decide) (fun c => absurd ((ti_lt (x := p0) (y := 0) (a := p0.toInt) (b := 0) rfl (by decide)).mp c) (by omega)) (fun c => ?_)
  refine lv_iload_n hx hb dX8_in_5 rfl (lv_at hl 0 rfl) ?_
  refine lv_iload_n hx hb dX8_in_6 rfl (lv_at hl 2 rfl) ?_
  refine lv_icmp_gt (tgt := 14) hx hb dX8_in_7 (by decide) (fun c => absurd ((ti_lt (x := 255) (y := p0) (a := 255) (b := p0.toInt) (by decide) rfl).mp c) (by omega)) (fun c => ?_)
  refine lv_iconst (v := 1) hx hb dX8_in_10 (by decide) ?_
  refine lv_goto (tgt := 15) hx hb dX8_in_11 (by decide) ?_
  exact kr_z () hx hb hr rfl hlocks hP hD hS rfl dX8_in_15
set_option maxHeartbeats 4000000 in
set_option maxRecDepth 100000 in
theorem K261_X8_poke (l : Launch) (D : va_G) (cB cI cZ : ClassId) (sz : Nat) (h0 : Nat) (h1 : Nat)  (p0 : Int32) (p1 : Int32) (p2 : Int32) (g0 : Value) (g1 : Value) (g2 : Value) (g3 : Value) (g4 : Value) (g5 : Value) (g6 : Value) (g7 : Value) (g8 : Value) (g9 : Value) (g10 : Value) (g11 : Value) (g12 : Value) (g13 : Value) (g14 : Value) (g15 : Value) (g16 : Value) (g17 : Value) (g18 : Value) (g19 : Value) (g20 : Value) (g21 : Value) (g22 : Value) (g23 : Value) (g24 : Value) (g25 : Value) (g26 : Value) (g27 : Value) (g28 : Value) (i_p0 : 0 ≤ p0.toInt ∧ p0.toInt ≤ 63) (i_p1 : 0 ≤ p1.toInt ∧ p1.toInt ≤ 1023) (i_p2 : 0 ≤ p2.toInt ∧ p2.toInt ≤ 255) :
    CtI l D cB cI cZ yX8_poke wsX8_poke { frames := 1, cells := 0, slots := 0, locals := 22 } [.ref h0, .int p0, .int p1, .int p2] [(h0, .inr (7, [g0, g1, .ref h1, g2, g3, g4, g5, g6, g7, g8, g9, g10, g11, g12, g13, g14, g15, g16, g17, g18, g19, g20, g21, g22, g23, g24, g25, g26, g27, g28])), (h1, .inl (cB, 65536, .inl zf))] sz 0 0
      (fun (r : Int32) (u : Unit) => r.toInt = p2.toInt + 0)
      (fun u => []) := by
  refine mk_metI (cc := cX8_poke) (maxL := 4) (ret := (some .int)) (by decide) rfl (Nat.le_of_ble_eq_true rfl) ?_
  intro p e s m below meth c A hx hb hr hml hts hown hlocks hin hP hK hN hD hA hS ls hl
  have hown : s.vm.findClass RX8 = some m.cls := hown
  have hl : lv_has ls 4 [(0, .ref h0), (1, .int p0), (2, .int p1), (3, .int p2)] := hl
  refine lv_aload_n hx hb dX8_poke_0 rfl (lv_at hl 0 rfl) ?_
  refine lv_iconst (v := 0) hx hb dX8_poke_1 (by decide) ?_
  refine va_put (D := D) (ci := 7) (v := .int 0) (ty := .int) (C := RX8) (T := TX8) (N := 30) hx hb hts inX8_poke_X8 tyX8 tyX8_ok nmX8 hown hK hP hD hS 0 rfl rfl 0 (by decide) (hts _ wdX8_poke_0) (fun _ h9 => h9) rfl (by decide +kernel) rfl rfl (Nat.le_of_ble_eq_true rfl) dX8_poke_2 (fun H locs hP hD hS => ?_)
  have hP : va_P D vwCl [(h0, .inr (7, [.int 0, g1, .ref h1, g2, g3, g4, g5, g6, g7, g8, g9, g10, g11, g12, g13, g14, g15, g16, g17, g18, g19, g20, g21, g22, g23, g24, g25, g26, g27, g28])), (h1, .inl (cB, 65536, .inl zf))] H := hP
  have hD : va_D A [(h0, .inr (7, [.int 0, g1, .ref h1, g2, g3, g4, g5, g6, g7, g8, g9, g10, g11, g12, g13, g14, g15, g16, g17, g18, g19, g20, g21, g22, g23, g24, g25, g26, g27, g28])), (h1, .inl (cB, 65536, .inl zf))] := hD
  refine lv_iload_n hx hb dX8_poke_5 rfl (lv_at hl 1 rfl) ?_
  refine lv_iconst (v := 0) hx hb dX8_poke_6 (by decide) ?_
  refine lv_bipush (v := 63) hx hb dX8_poke_7 (by decide) ?_
  refine kc_i (wr := [(h0, .inr (7, [.int 0, g1, .ref h1, g2, g3, g4, g5, g6, g7, g8, g9, g10, g11, g12, g13, g14, g15, g16, g17, g18, g19, g20, g21, g22, g23, g24, g25, g26, g27, g28])), (h1, .inl (cB, 65536, .inl zf))]) (va_runS (As := [.int p0, .int 0, .int 63]) (rest := []) ⟨hx, hb, hml, hown, hts⟩ (K192_X8_in l D cB cI cZ _ p0 ⟨by omega, by omega⟩) (va_cwS 3 hts gX8_poke_X8_in rfl rfl rfl (by decide +kernel) ⟨Nat.le_of_ble_eq_true rfl, Nat.le_of_ble_eq_true rfl⟩) (pre_S (hP.sub [] rfl) hK hN (hD.sub [] (by decide) rfl)) rfl rfl hl.1 rfl (lv_room (Nat.le_of_ble_eq_true rfl)) dX8_poke_9 ⟨Nat.le_of_ble_eq_true rfl, Nat.le_of_ble_eq_true rfl⟩) hP hD hS hA [] [0, 1] rfl rfl (by decide) (by decide) (fun r_1 u H locs hw hP hD hS => ?_)
  have k_2 := hw
  obtain rfl : r_1 = 1 := k_2
  have hP : va_P D vwCl [(h0, .inr (7, [.int 0, g1, .ref h1, g2, g3, g4, g5, g6, g7, g8, g9, g10, g11, g12, g13, g14, g15, g16, g17, g18, g19, g20, g21, g22, g23, g24, g25, g26, g27, g28])), (h1, .inl (cB, 65536, .inl zf))] H := hP
  have hD : va_D A [(h0, .inr (7, [.int 0, g1, .ref h1, g2, g3, g4, g5, g6, g7, g8, g9, g10, g11, g12, g13, g14, g15, g16, g17, g18, g19, g20, g21, g22, g23, g24, g25, g26, g27, g28])), (h1, .inl (cB, 65536, .inl zf))] := hD
  refine lv_if_eq (tgt := 26) hx hb dX8_poke_12 (by decide) (fun c => absurd c (by decide)) (fun c => ?_)
  refine lv_iload_n hx hb dX8_poke_15 rfl (lv_at hl 2 rfl) ?_
  refine lv_iconst (v := 0) hx hb dX8_poke_16 (by decide) ?_
  refine lv_sipush (v := 1023) hx hb dX8_poke_17 (by decide) ?_
  refine kc_i (wr := [(h0, .inr (7, [.int 0, g1, .ref h1, g2, g3, g4, g5, g6, g7, g8, g9, g10, g11, g12, g13, g14, g15, g16, g17, g18, g19, g20, g21, g22, g23, g24, g25, g26, g27, g28])), (h1, .inl (cB, 65536, .inl zf))]) (va_runS (As := [.int p1, .int 0, .int 1023]) (rest := []) ⟨hx, hb, hml, hown, hts⟩ (K242_X8_in l D cB cI cZ _ p1 ⟨by omega, by omega⟩) (va_cwS 3 hts gX8_poke_X8_in rfl rfl rfl (by decide +kernel) ⟨Nat.le_of_ble_eq_true rfl, Nat.le_of_ble_eq_true rfl⟩) (pre_S (hP.sub [] rfl) hK hN (hD.sub [] (by decide) rfl)) rfl rfl hl.1 rfl (lv_room (Nat.le_of_ble_eq_true rfl)) dX8_poke_20 ⟨Nat.le_of_ble_eq_true rfl, Nat.le_of_ble_eq_true rfl⟩) hP hD hS hA [] [0, 1] rfl rfl (by decide) (by decide) (fun r_3 u H locs hw hP hD hS => ?_)
  have k_4 := hw
  obtain rfl : r_3 = 1 := k_4
  have hP : va_P D vwCl [(h0, .inr (7, [.int 0, g1, .ref h1, g2, g3, g4, g5, g6, g7, g8, g9, g10, g11, g12, g13, g14, g15, g16, g17, g18, g19, g20, g21, g22, g23, g24, g25, g26, g27, g28])), (h1, .inl (cB, 65536, .inl zf))] H := hP
  have hD : va_D A [(h0, .inr (7, [.int 0, g1, .ref h1, g2, g3, g4, g5, g6, g7, g8, g9, g10, g11, g12, g13, g14, g15, g16, g17, g18, g19, g20, g21, g22, g23, g24, g25, g26, g27, g28])), (h1, .inl (cB, 65536, .inl zf))] := hD
  refine lv_if_ne (tgt := 28) hx hb dX8_poke_23 (by decide) (fun c => ?_) (fun c => absurd c (by decide))
  refine lv_iload_n hx hb dX8_poke_28 rfl (lv_at hl 3 rfl) ?_
  refine lv_iconst (v := 0) hx hb dX8_poke_29 (by decide) ?_
  refine lv_sipush (v := 255) hx hb dX8_poke_30 (by decide) ?_
  refine kc_i (wr := [(h0, .inr (7, [.int 0, g1, .ref h1, g2, g3, g4, g5, g6, g7, g8, g9, g10, g11, g12, g13, g14, g15, g16, g17, g18, g19, g20, g21, g22, g23, g24, g25, g26, g27, g28])), (h1, .inl (cB, 65536, .inl zf))]) (va_runS (As := [.int p2, .int 0, .int 255]) (rest := []) ⟨hx, hb, hml, hown, hts⟩ (K262_X8_in l D cB cI cZ _ p2 ⟨by omega, by omega⟩) (va_cwS 3 hts gX8_poke_X8_in rfl rfl rfl (by decide +kernel) ⟨Nat.le_of_ble_eq_true rfl, Nat.le_of_ble_eq_true rfl⟩) (pre_S (hP.sub [] rfl) hK hN (hD.sub [] (by decide) rfl)) rfl rfl hl.1 rfl (lv_room (Nat.le_of_ble_eq_true rfl)) dX8_poke_33 ⟨Nat.le_of_ble_eq_true rfl, Nat.le_of_ble_eq_true rfl⟩) hP hD hS hA [] [0, 1] rfl rfl (by decide) (by decide) (fun r_5 u H locs hw hP hD hS => ?_)
  have k_6 := hw
  obtain rfl : r_5 = 1 := k_6
  have hP : va_P D vwCl [(h0, .inr (7, [.int 0, g1, .ref h1, g2, g3, g4, g5, g6, g7, g8, g9, g10, g11, g12, g13, g14, g15, g16, g17, g18, g19, g20, g21, g22, g23, g24, g25, g26, g27, g28])), (h1, .inl (cB, 65536, .inl zf))] H := hP
  have hD : va_D A [(h0, .inr (7, [.int 0, g1, .ref h1, g2, g3, g4, g5, g6, g7, g8, g9, g10, g11, g12, g13, g14, g15, g16, g17, g18, g19, g20, g21, g22, g23, g24, g25, g26, g27, g28])), (h1, .inl (cB, 65536, .inl zf))] := hD
  refine lv_if_ne (tgt := 42) hx hb dX8_poke_36 (by decide) (fun c => ?_) (fun c => absurd c (by decide))
  refine lv_aload_n hx hb dX8_poke_42 rfl (lv_at hl 0 rfl) ?_
  refine va_get (D := D) (ci := 7) (v := .ref h1) (C := RX8) (T := TX8) (N := 30) hx hb hts inX8_poke_X8 hown hK hP 0 rfl rfl 2 (by decide) (hts _ wdX8_poke_1) (fun _ h9 => h9) rfl dX8_poke_43 ?_
  refine lv_iload_n hx hb dX8_poke_46 rfl (lv_at hl 1 rfl) ?_
  refine lv_iload_n hx hb dX8_poke_47 rfl (lv_at hl 2 rfl) ?_
  refine kc_i (wr := [(h0, .inr (7, [.int 0, g1, .ref h1, g2, g3, g4, g5, g6, g7, g8, g9, g10, g11, g12, g13, g14, g15, g16, g17, g18, g19, g20, g21, g22, g23, g24, g25, g26, g27, g28])), (h1, .inl (cB, 65536, .inl zf))]) (va_runS (As := [.int p0, .int p1]) (rest := [.ref h1]) ⟨hx, hb, hml, hown, hts⟩ (K243_X8_at l D cB cI cZ _ p0 p1 ⟨by omega, by omega⟩ ⟨by omega, by omega⟩) (va_cwS 2 hts gX8_poke_X8_at rfl rfl rfl (by decide +kernel) ⟨Nat.le_of_ble_eq_true rfl, Nat.le_of_ble_eq_true rfl⟩) (pre_S (hP.sub [] rfl) hK hN (hD.sub [] (by decide) rfl)) rfl rfl hl.1 rfl (lv_room (Nat.le_of_ble_eq_true rfl)) dX8_poke_48 ⟨Nat.le_of_ble_eq_true rfl, Nat.le_of_ble_eq_true rfl⟩) hP hD hS hA [] [0, 1] rfl rfl (by decide) (by decide) (fun r_7 u H locs hw hP hD hS => ?_)
  obtain ⟨k_8, k_9, ek_10⟩ := hw
  have k_8 : 0 ≤ r_7.toInt := k_8
  have k_9 : r_7.toInt ≤ 65535 := k_9
  have hP : va_P D vwCl [(h0, .inr (7, [.int 0, g1, .ref h1, g2, g3, g4, g5, g6, g7, g8, g9, g10, g11, g12, g13, g14, g15, g16, g17, g18, g19, g20, g21, g22, g23, g24, g25, g26, g27, g28])), (h1, .inl (cB, 65536, .inl zf))] H := hP
  have hD : va_D A [(h0, .inr (7, [.int 0, g1, .ref h1, g2, g3, g4, g5, g6, g7, g8, g9, g10, g11, g12, g13, g14, g15, g16, g17, g18, g19, g20, g21, g22, g23, g24, g25, g26, g27, g28])), (h1, .inl (cB, 65536, .inl zf))] := hD
  refine lv_dup2_11 hx hb dX8_poke_51 rfl rfl ?_
  refine va_bald hx hb hK hP 1 0 rfl rfl (ti_in (a := r_7.toInt) rfl (by omega) (by omega)) dX8_poke_52 ?_
  refine lv_topi (fun z_11 ez_11 => ?_)
  obtain rfl : z_11 = 0 := ez_11
  refine lv_iload_n hx hb dX8_poke_53 rfl (lv_at hl 3 rfl) ?_
  refine lv_i2b hx hb dX8_poke_54 rfl ?_
  refine lv_topi (fun x_12 ex_12 => ?_)
  refine lv_ixor hx hb dX8_poke_55 ?_
  refine lv_topi (fun x_13 ex_13 => ?_)
  refine lv_i2b hx hb dX8_poke_56 rfl ?_
  refine lv_topi (fun x_14 ex_14 => ?_)
  refine va_bast hx hb hK hP hD hS 1 0 rfl rfl (ti_in (a := r_7.toInt) rfl (by omega) (by omega)) dX8_poke_57 (fun H locs hP hD hS => ?_)
  obtain ⟨f_15, ef_15⟩ : ∃ g : Nat → Int32, g = upd zf (Int32.toNatClampNeg r_7) (vp_nar .byte x_14) := ⟨_, rfl⟩
  rw [← ef_15] at hP hD
  have bf_15 : FB f_15 := by rw [ef_15]; exact FB_upd FB_zf _ _
  have hP : va_P D vwCl [(h0, .inr (7, [.int 0, g1, .ref h1, g2, g3, g4, g5, g6, g7, g8, g9, g10, g11, g12, g13, g14, g15, g16, g17, g18, g19, g20, g21, g22, g23, g24, g25, g26, g27, g28])), (h1, .inl (cB, 65536, .inl f_15))] H := hP
  have hD : va_D A [(h0, .inr (7, [.int 0, g1, .ref h1, g2, g3, g4, g5, g6, g7, g8, g9, g10, g11, g12, g13, g14, g15, g16, g17, g18, g19, g20, g21, g22, g23, g24, g25, g26, g27, g28])), (h1, .inl (cB, 65536, .inl f_15))] := hD
  refine lv_aload_n hx hb dX8_poke_58 rfl (lv_at hl 0 rfl) ?_
  refine va_get (D := D) (ci := 7) (v := .ref h1) (C := RX8) (T := TX8) (N := 30) hx hb hts inX8_poke_X8 hown hK hP 0 rfl rfl 2 (by decide) (hts _ wdX8_poke_1) (fun _ h9 => h9) rfl dX8_poke_59 ?_
  refine lv_iload_n hx hb dX8_poke_62 rfl (lv_at hl 1 rfl) ?_
  refine lv_iload_n hx hb dX8_poke_63 rfl (lv_at hl 2 rfl) ?_
  refine kc_i (wr := [(h0, .inr (7, [.int 0, g1, .ref h1, g2, g3, g4, g5, g6, g7, g8, g9, g10, g11, g12, g13, g14, g15, g16, g17, g18, g19, g20, g21, g22, g23, g24, g25, g26, g27, g28])), (h1, .inl (cB, 65536, .inl f_15))]) (va_runS (As := [.int p0, .int p1]) (rest := [.ref h1]) ⟨hx, hb, hml, hown, hts⟩ (K243_X8_at l D cB cI cZ _ p0 p1 ⟨by omega, by omega⟩ ⟨by omega, by omega⟩) (va_cwS 2 hts gX8_poke_X8_at rfl rfl rfl (by decide +kernel) ⟨Nat.le_of_ble_eq_true rfl, Nat.le_of_ble_eq_true rfl⟩) (pre_S (hP.sub [] rfl) hK hN (hD.sub [] (by decide) rfl)) rfl rfl hl.1 rfl (lv_room (Nat.le_of_ble_eq_true rfl)) dX8_poke_64 ⟨Nat.le_of_ble_eq_true rfl, Nat.le_of_ble_eq_true rfl⟩) hP hD hS hA [] [0, 1] rfl rfl (by decide) (by decide) (fun r_16 u H locs hw hP hD hS => ?_)
  obtain ⟨k_17, k_18, ek_19⟩ := hw
  have k_17 : 0 ≤ r_16.toInt := k_17
  have k_18 : r_16.toInt ≤ 65535 := k_18
  have hP : va_P D vwCl [(h0, .inr (7, [.int 0, g1, .ref h1, g2, g3, g4, g5, g6, g7, g8, g9, g10, g11, g12, g13, g14, g15, g16, g17, g18, g19, g20, g21, g22, g23, g24, g25, g26, g27, g28])), (h1, .inl (cB, 65536, .inl f_15))] H := hP
  have hD : va_D A [(h0, .inr (7, [.int 0, g1, .ref h1, g2, g3, g4, g5, g6, g7, g8, g9, g10, g11, g12, g13, g14, g15, g16, g17, g18, g19, g20, g21, g22, g23, g24, g25, g26, g27, g28])), (h1, .inl (cB, 65536, .inl f_15))] := hD
  refine va_bald hx hb hK hP 1 0 rfl rfl (ti_in (a := r_16.toInt) rfl (by omega) (by omega)) dX8_poke_67 ?_
  refine lv_topi (fun x_20 ex_20 => ?_)
  refine lv_sipush (v := 255) hx hb dX8_poke_68 (by decide) ?_
  refine lv_iand hx hb dX8_poke_71 ?_
  refine lv_topi (fun x_21 ex_21 => ?_)
  exact kr_i () hx hb hr hlocks (hP.sub [] rfl) (hD.sub [] (by decide) rfl) hS (by have h9 : x_21 = p2 := (by rw [ex_21, ex_20, show r_16 = r_7 from ti_inj (a := r_7.toInt) rfl (by omega), ef_15, pk_us, ex_14, ex_13, ex_12]; exact fl_2 (by omega) (by omega)); rw [h9]; omega) dX8_poke_72
end
