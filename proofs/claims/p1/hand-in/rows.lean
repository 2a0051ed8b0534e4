section
-- ===== PART A: goes FIRST, ahead of the names: the tables' words, and 'selects' of the private methods out of them =====
/-- a private method of a class that the tables say can be made, by its rows of tables_1 -/
def lw_okq (q : MethodName × Nat) : Prop := (q.1.cls ≠ "java/lang/invoke/MethodHandle" ∧ q.1.cls ≠ "java/lang/invoke/VarHandle") ∧ Cond.instantiable q.1.cls q.2 ∈ tables_1 ∧ Cond.privateMethod q.1 ∈ tables_1 ∧ Cond.instanceMethod q.1 ∈ tables_1
theorem lw_p0 : lw_okq (⟨"LoopEnvelopes$Segments", "numberAt", "(II)I"⟩, 5) := ⟨⟨by decide +kernel, by decide +kernel⟩, List.mem_of_getElem? (i := 36) (by decide +kernel), List.mem_of_getElem? (i := 241) (by decide +kernel), List.mem_of_getElem? (i := 242) (by decide +kernel)⟩
theorem lw_p1 : lw_okq (⟨"LoopEnvelopes", "scan", "()I"⟩, 7) := ⟨⟨by decide +kernel, by decide +kernel⟩, List.mem_of_getElem? (i := 11) (by decide +kernel), List.mem_of_getElem? (i := 251) (by decide +kernel), List.mem_of_getElem? (i := 252) (by decide +kernel)⟩
theorem lw_p2 : lw_okq (⟨"LoopEnvelopes", "tell", "(II)I"⟩, 7) := ⟨⟨by decide +kernel, by decide +kernel⟩, List.mem_of_getElem? (i := 11) (by decide +kernel), List.mem_of_getElem? (i := 267) (by decide +kernel), List.mem_of_getElem? (i := 268) (by decide +kernel)⟩
theorem lw_p3 : lw_okq (⟨"LoopEnvelopes$Segments", "nameAt", "(II)I"⟩, 5) := ⟨⟨by decide +kernel, by decide +kernel⟩, List.mem_of_getElem? (i := 36) (by decide +kernel), List.mem_of_getElem? (i := 291) (by decide +kernel), List.mem_of_getElem? (i := 292) (by decide +kernel)⟩
theorem lw_p4 : lw_okq (⟨"LoopEnvelopes$Frames", "beginGroup", "(I)Z"⟩, 6) := ⟨⟨by decide +kernel, by decide +kernel⟩, List.mem_of_getElem? (i := 78) (by decide +kernel), List.mem_of_getElem? (i := 304) (by decide +kernel), List.mem_of_getElem? (i := 305) (by decide +kernel)⟩
theorem lw_p5 : lw_okq (⟨"LoopEnvelopes$Frames", "endAll", "(I)Z"⟩, 6) := ⟨⟨by decide +kernel, by decide +kernel⟩, List.mem_of_getElem? (i := 78) (by decide +kernel), List.mem_of_getElem? (i := 326) (by decide +kernel), List.mem_of_getElem? (i := 327) (by decide +kernel)⟩
theorem lw_p6 : lw_okq (⟨"LoopEnvelopes$Frames", "tells", "(III)Z"⟩, 6) := ⟨⟨by decide +kernel, by decide +kernel⟩, List.mem_of_getElem? (i := 78) (by decide +kernel), List.mem_of_getElem? (i := 331) (by decide +kernel), List.mem_of_getElem? (i := 332) (by decide +kernel)⟩
theorem lw_p7 : lw_okq (⟨"LoopEnvelopes$Frames", "beginSet", "(I)Z"⟩, 6) := ⟨⟨by decide +kernel, by decide +kernel⟩, List.mem_of_getElem? (i := 78) (by decide +kernel), List.mem_of_getElem? (i := 336) (by decide +kernel), List.mem_of_getElem? (i := 337) (by decide +kernel)⟩
theorem lw_p8 : lw_okq (⟨"LoopEnvelopes$Frames", "endGroup", "(I)Z"⟩, 6) := ⟨⟨by decide +kernel, by decide +kernel⟩, List.mem_of_getElem? (i := 78) (by decide +kernel), List.mem_of_getElem? (i := 342) (by decide +kernel), List.mem_of_getElem? (i := 343) (by decide +kernel)⟩
theorem lw_p9 : lw_okq (⟨"LoopEnvelopes$Frames", "goOnInSet", "(I)Z"⟩, 6) := ⟨⟨by decide +kernel, by decide +kernel⟩, List.mem_of_getElem? (i := 78) (by decide +kernel), List.mem_of_getElem? (i := 346) (by decide +kernel), List.mem_of_getElem? (i := 347) (by decide +kernel)⟩
theorem lw_p10 : lw_okq (⟨"LoopEnvelopes$Judge", "markForm", "(I)V"⟩, 5) := ⟨⟨by decide +kernel, by decide +kernel⟩, List.mem_of_getElem? (i := 105) (by decide +kernel), List.mem_of_getElem? (i := 363) (by decide +kernel), List.mem_of_getElem? (i := 364) (by decide +kernel)⟩
theorem lw_p11 : lw_okq (⟨"LoopEnvelopes$Judge", "isWellFormed", "(II)Z"⟩, 5) := ⟨⟨by decide +kernel, by decide +kernel⟩, List.mem_of_getElem? (i := 105) (by decide +kernel), List.mem_of_getElem? (i := 368) (by decide +kernel), List.mem_of_getElem? (i := 369) (by decide +kernel)⟩
theorem lw_p12 : lw_okq (⟨"LoopEnvelopes$Judge", "isLevelForm", "(I)Z"⟩, 5) := ⟨⟨by decide +kernel, by decide +kernel⟩, List.mem_of_getElem? (i := 105) (by decide +kernel), List.mem_of_getElem? (i := 375) (by decide +kernel), List.mem_of_getElem? (i := 376) (by decide +kernel)⟩
theorem lw_p13 : lw_okq (⟨"LoopEnvelopes$Judge", "findFault", "(I)I"⟩, 5) := ⟨⟨by decide +kernel, by decide +kernel⟩, List.mem_of_getElem? (i := 105) (by decide +kernel), List.mem_of_getElem? (i := 399) (by decide +kernel), List.mem_of_getElem? (i := 400) (by decide +kernel)⟩
theorem lw_p14 : lw_okq (⟨"LoopEnvelopes$Judge", "isOutOfOrder", "(II)Z"⟩, 5) := ⟨⟨by decide +kernel, by decide +kernel⟩, List.mem_of_getElem? (i := 105) (by decide +kernel), List.mem_of_getElem? (i := 410) (by decide +kernel), List.mem_of_getElem? (i := 411) (by decide +kernel)⟩
theorem lw_p15 : lw_okq (⟨"LoopEnvelopes$Judge", "isWrongEnd", "(I)Z"⟩, 5) := ⟨⟨by decide +kernel, by decide +kernel⟩, List.mem_of_getElem? (i := 105) (by decide +kernel), List.mem_of_getElem? (i := 423) (by decide +kernel), List.mem_of_getElem? (i := 424) (by decide +kernel)⟩
def lw_privs_1 : List (MethodName × Nat) := [(⟨"LoopEnvelopes$Segments", "numberAt", "(II)I"⟩, 5), (⟨"LoopEnvelopes", "scan", "()I"⟩, 7), (⟨"LoopEnvelopes", "tell", "(II)I"⟩, 7), (⟨"LoopEnvelopes$Segments", "nameAt", "(II)I"⟩, 5), (⟨"LoopEnvelopes$Frames", "beginGroup", "(I)Z"⟩, 6), (⟨"LoopEnvelopes$Frames", "endAll", "(I)Z"⟩, 6), (⟨"LoopEnvelopes$Frames", "tells", "(III)Z"⟩, 6), (⟨"LoopEnvelopes$Frames", "beginSet", "(I)Z"⟩, 6), (⟨"LoopEnvelopes$Frames", "endGroup", "(I)Z"⟩, 6), (⟨"LoopEnvelopes$Frames", "goOnInSet", "(I)Z"⟩, 6), (⟨"LoopEnvelopes$Judge", "markForm", "(I)V"⟩, 5), (⟨"LoopEnvelopes$Judge", "isWellFormed", "(II)Z"⟩, 5), (⟨"LoopEnvelopes$Judge", "isLevelForm", "(I)Z"⟩, 5), (⟨"LoopEnvelopes$Judge", "findFault", "(I)I"⟩, 5), (⟨"LoopEnvelopes$Judge", "isOutOfOrder", "(II)Z"⟩, 5), (⟨"LoopEnvelopes$Judge", "isWrongEnd", "(I)Z"⟩, 5)]
theorem lw_r1 : ∀ q ∈ lw_privs_1, lw_okq q := List.forall_mem_cons.mpr ⟨lw_p0, List.forall_mem_cons.mpr ⟨lw_p1, List.forall_mem_cons.mpr ⟨lw_p2, List.forall_mem_cons.mpr ⟨lw_p3, List.forall_mem_cons.mpr ⟨lw_p4, List.forall_mem_cons.mpr ⟨lw_p5, List.forall_mem_cons.mpr ⟨lw_p6, List.forall_mem_cons.mpr ⟨lw_p7, List.forall_mem_cons.mpr ⟨lw_p8, List.forall_mem_cons.mpr ⟨lw_p9, List.forall_mem_cons.mpr ⟨lw_p10, List.forall_mem_cons.mpr ⟨lw_p11, List.forall_mem_cons.mpr ⟨lw_p12, List.forall_mem_cons.mpr ⟨lw_p13, List.forall_mem_cons.mpr ⟨lw_p14, List.forall_mem_cons.mpr ⟨lw_p15, fun _ h => absurd h List.not_mem_nil⟩⟩⟩⟩⟩⟩⟩⟩⟩⟩⟩⟩⟩⟩⟩⟩
theorem lw_p16 : lw_okq (⟨"LoopEnvelopes$Judge", "isLevelUnlinked", "(I)Z"⟩, 5) := ⟨⟨by decide +kernel, by decide +kernel⟩, List.mem_of_getElem? (i := 105) (by decide +kernel), List.mem_of_getElem? (i := 427) (by decide +kernel), List.mem_of_getElem? (i := 428) (by decide +kernel)⟩
theorem lw_p17 : lw_okq (⟨"LoopEnvelopes$Judge", "parentOf", "(I)I"⟩, 5) := ⟨⟨by decide +kernel, by decide +kernel⟩, List.mem_of_getElem? (i := 105) (by decide +kernel), List.mem_of_getElem? (i := 435) (by decide +kernel), List.mem_of_getElem? (i := 436) (by decide +kernel)⟩
theorem lw_p18 : lw_okq (⟨"LoopEnvelopes$Judge", "isMoreWrong", "(I)Z"⟩, 5) := ⟨⟨by decide +kernel, by decide +kernel⟩, List.mem_of_getElem? (i := 105) (by decide +kernel), List.mem_of_getElem? (i := 447) (by decide +kernel), List.mem_of_getElem? (i := 448) (by decide +kernel)⟩
theorem lw_p19 : lw_okq (⟨"LoopEnvelopes$Judge", "isClaimUnlinked", "(I)Z"⟩, 5) := ⟨⟨by decide +kernel, by decide +kernel⟩, List.mem_of_getElem? (i := 105) (by decide +kernel), List.mem_of_getElem? (i := 451) (by decide +kernel), List.mem_of_getElem? (i := 452) (by decide +kernel)⟩
theorem lw_p20 : lw_okq (⟨"LoopEnvelopes$Judge", "isLineUnlinked", "(I)Z"⟩, 5) := ⟨⟨by decide +kernel, by decide +kernel⟩, List.mem_of_getElem? (i := 105) (by decide +kernel), List.mem_of_getElem? (i := 467) (by decide +kernel), List.mem_of_getElem? (i := 468) (by decide +kernel)⟩
theorem lw_p21 : lw_okq (⟨"LoopEnvelopes$Judge", "findDepth", "(II)I"⟩, 5) := ⟨⟨by decide +kernel, by decide +kernel⟩, List.mem_of_getElem? (i := 105) (by decide +kernel), List.mem_of_getElem? (i := 472) (by decide +kernel), List.mem_of_getElem? (i := 473) (by decide +kernel)⟩
theorem lw_p22 : lw_okq (⟨"LoopEnvelopes", "writeGroup", "(I)V"⟩, 7) := ⟨⟨by decide +kernel, by decide +kernel⟩, List.mem_of_getElem? (i := 11) (by decide +kernel), List.mem_of_getElem? (i := 579) (by decide +kernel), List.mem_of_getElem? (i := 580) (by decide +kernel)⟩
theorem lw_p23 : lw_okq (⟨"LoopEnvelopes$Writer", "add", "(I)V"⟩, 3) := ⟨⟨by decide +kernel, by decide +kernel⟩, List.mem_of_getElem? (i := 129) (by decide +kernel), List.mem_of_getElem? (i := 588) (by decide +kernel), List.mem_of_getElem? (i := 589) (by decide +kernel)⟩
theorem lw_p24 : lw_okq (⟨"LoopEnvelopes", "writeSet", "(I)V"⟩, 7) := ⟨⟨by decide +kernel, by decide +kernel⟩, List.mem_of_getElem? (i := 11) (by decide +kernel), List.mem_of_getElem? (i := 605) (by decide +kernel), List.mem_of_getElem? (i := 606) (by decide +kernel)⟩
theorem lw_p25 : lw_okq (⟨"LoopEnvelopesModel", "isOpening", "()Z"⟩, 29) := ⟨⟨by decide +kernel, by decide +kernel⟩, List.mem_of_getElem? (i := 644) (by decide +kernel), List.mem_of_getElem? (i := 759) (by decide +kernel), List.mem_of_getElem? (i := 760) (by decide +kernel)⟩
theorem lw_p26 : lw_okq (⟨"LoopEnvelopesModel", "found", "(II)I"⟩, 29) := ⟨⟨by decide +kernel, by decide +kernel⟩, List.mem_of_getElem? (i := 644) (by decide +kernel), List.mem_of_getElem? (i := 772) (by decide +kernel), List.mem_of_getElem? (i := 773) (by decide +kernel)⟩
theorem lw_p27 : lw_okq (⟨"LoopEnvelopesModel", "split", "(III)Z"⟩, 29) := ⟨⟨by decide +kernel, by decide +kernel⟩, List.mem_of_getElem? (i := 644) (by decide +kernel), List.mem_of_getElem? (i := 779) (by decide +kernel), List.mem_of_getElem? (i := 780) (by decide +kernel)⟩
theorem lw_p28 : lw_okq (⟨"LoopEnvelopesModel", "at", "(II)I"⟩, 29) := ⟨⟨by decide +kernel, by decide +kernel⟩, List.mem_of_getElem? (i := 644) (by decide +kernel), List.mem_of_getElem? (i := 783) (by decide +kernel), List.mem_of_getElem? (i := 784) (by decide +kernel)⟩
theorem lw_p29 : lw_okq (⟨"LoopEnvelopesModel", "findName", "(I)I"⟩, 29) := ⟨⟨by decide +kernel, by decide +kernel⟩, List.mem_of_getElem? (i := 644) (by decide +kernel), List.mem_of_getElem? (i := 787) (by decide +kernel), List.mem_of_getElem? (i := 788) (by decide +kernel)⟩
theorem lw_p30 : lw_okq (⟨"LoopEnvelopesModel", "isName", "(IIII)Z"⟩, 29) := ⟨⟨by decide +kernel, by decide +kernel⟩, List.mem_of_getElem? (i := 644) (by decide +kernel), List.mem_of_getElem? (i := 791) (by decide +kernel), List.mem_of_getElem? (i := 792) (by decide +kernel)⟩
theorem lw_p31 : lw_okq (⟨"LoopEnvelopesModel", "lengthOf", "(II)I"⟩, 29) := ⟨⟨by decide +kernel, by decide +kernel⟩, List.mem_of_getElem? (i := 644) (by decide +kernel), List.mem_of_getElem? (i := 795) (by decide +kernel), List.mem_of_getElem? (i := 796) (by decide +kernel)⟩
def lw_privs_2 : List (MethodName × Nat) := [(⟨"LoopEnvelopes$Judge", "isLevelUnlinked", "(I)Z"⟩, 5), (⟨"LoopEnvelopes$Judge", "parentOf", "(I)I"⟩, 5), (⟨"LoopEnvelopes$Judge", "isMoreWrong", "(I)Z"⟩, 5), (⟨"LoopEnvelopes$Judge", "isClaimUnlinked", "(I)Z"⟩, 5), (⟨"LoopEnvelopes$Judge", "isLineUnlinked", "(I)Z"⟩, 5), (⟨"LoopEnvelopes$Judge", "findDepth", "(II)I"⟩, 5), (⟨"LoopEnvelopes", "writeGroup", "(I)V"⟩, 7), (⟨"LoopEnvelopes$Writer", "add", "(I)V"⟩, 3), (⟨"LoopEnvelopes", "writeSet", "(I)V"⟩, 7), (⟨"LoopEnvelopesModel", "isOpening", "()Z"⟩, 29), (⟨"LoopEnvelopesModel", "found", "(II)I"⟩, 29), (⟨"LoopEnvelopesModel", "split", "(III)Z"⟩, 29), (⟨"LoopEnvelopesModel", "at", "(II)I"⟩, 29), (⟨"LoopEnvelopesModel", "findName", "(I)I"⟩, 29), (⟨"LoopEnvelopesModel", "isName", "(IIII)Z"⟩, 29), (⟨"LoopEnvelopesModel", "lengthOf", "(II)I"⟩, 29)]
theorem lw_r2 : ∀ q ∈ lw_privs_2, lw_okq q := List.forall_mem_cons.mpr ⟨lw_p16, List.forall_mem_cons.mpr ⟨lw_p17, List.forall_mem_cons.mpr ⟨lw_p18, List.forall_mem_cons.mpr ⟨lw_p19, List.forall_mem_cons.mpr ⟨lw_p20, List.forall_mem_cons.mpr ⟨lw_p21, List.forall_mem_cons.mpr ⟨lw_p22, List.forall_mem_cons.mpr ⟨lw_p23, List.forall_mem_cons.mpr ⟨lw_p24, List.forall_mem_cons.mpr ⟨lw_p25, List.forall_mem_cons.mpr ⟨lw_p26, List.forall_mem_cons.mpr ⟨lw_p27, List.forall_mem_cons.mpr ⟨lw_p28, List.forall_mem_cons.mpr ⟨lw_p29, List.forall_mem_cons.mpr ⟨lw_p30, List.forall_mem_cons.mpr ⟨lw_p31, fun _ h => absurd h List.not_mem_nil⟩⟩⟩⟩⟩⟩⟩⟩⟩⟩⟩⟩⟩⟩⟩⟩
theorem lw_p32 : lw_okq (⟨"LoopEnvelopesModel", "byteAt", "(III)I"⟩, 29) := ⟨⟨by decide +kernel, by decide +kernel⟩, List.mem_of_getElem? (i := 644) (by decide +kernel), List.mem_of_getElem? (i := 799) (by decide +kernel), List.mem_of_getElem? (i := 800) (by decide +kernel)⟩
theorem lw_p33 : lw_okq (⟨"LoopEnvelopesModel", "stands", "(I)Z"⟩, 29) := ⟨⟨by decide +kernel, by decide +kernel⟩, List.mem_of_getElem? (i := 644) (by decide +kernel), List.mem_of_getElem? (i := 803) (by decide +kernel), List.mem_of_getElem? (i := 804) (by decide +kernel)⟩
theorem lw_p34 : lw_okq (⟨"LoopEnvelopesModel", "hasFigures", "(IIII)Z"⟩, 29) := ⟨⟨by decide +kernel, by decide +kernel⟩, List.mem_of_getElem? (i := 644) (by decide +kernel), List.mem_of_getElem? (i := 807) (by decide +kernel), List.mem_of_getElem? (i := 808) (by decide +kernel)⟩
theorem lw_p35 : lw_okq (⟨"LoopEnvelopesModel", "isCount", "(II)Z"⟩, 29) := ⟨⟨by decide +kernel, by decide +kernel⟩, List.mem_of_getElem? (i := 644) (by decide +kernel), List.mem_of_getElem? (i := 811) (by decide +kernel), List.mem_of_getElem? (i := 812) (by decide +kernel)⟩
theorem lw_p36 : lw_okq (⟨"LoopEnvelopesModel", "numberOf", "(II)I"⟩, 29) := ⟨⟨by decide +kernel, by decide +kernel⟩, List.mem_of_getElem? (i := 644) (by decide +kernel), List.mem_of_getElem? (i := 815) (by decide +kernel), List.mem_of_getElem? (i := 816) (by decide +kernel)⟩
theorem lw_p37 : lw_okq (⟨"LoopEnvelopesModel", "isNumber", "(II)Z"⟩, 29) := ⟨⟨by decide +kernel, by decide +kernel⟩, List.mem_of_getElem? (i := 644) (by decide +kernel), List.mem_of_getElem? (i := 819) (by decide +kernel), List.mem_of_getElem? (i := 820) (by decide +kernel)⟩
theorem lw_p38 : lw_okq (⟨"LoopEnvelopesModel", "judge", "(I)V"⟩, 29) := ⟨⟨by decide +kernel, by decide +kernel⟩, List.mem_of_getElem? (i := 644) (by decide +kernel), List.mem_of_getElem? (i := 823) (by decide +kernel), List.mem_of_getElem? (i := 824) (by decide +kernel)⟩
theorem lw_p39 : lw_okq (⟨"LoopEnvelopesModel", "isWell", "(I)Z"⟩, 29) := ⟨⟨by decide +kernel, by decide +kernel⟩, List.mem_of_getElem? (i := 644) (by decide +kernel), List.mem_of_getElem? (i := 827) (by decide +kernel), List.mem_of_getElem? (i := 828) (by decide +kernel)⟩
theorem lw_p40 : lw_okq (⟨"LoopEnvelopesModel", "isKind", "(II)Z"⟩, 29) := ⟨⟨by decide +kernel, by decide +kernel⟩, List.mem_of_getElem? (i := 644) (by decide +kernel), List.mem_of_getElem? (i := 831) (by decide +kernel), List.mem_of_getElem? (i := 832) (by decide +kernel)⟩
theorem lw_p41 : lw_okq (⟨"LoopEnvelopesModel", "isMore", "(II)Z"⟩, 29) := ⟨⟨by decide +kernel, by decide +kernel⟩, List.mem_of_getElem? (i := 644) (by decide +kernel), List.mem_of_getElem? (i := 835) (by decide +kernel), List.mem_of_getElem? (i := 836) (by decide +kernel)⟩
theorem lw_p42 : lw_okq (⟨"LoopEnvelopesModel", "isWord", "(II)Z"⟩, 29) := ⟨⟨by decide +kernel, by decide +kernel⟩, List.mem_of_getElem? (i := 644) (by decide +kernel), List.mem_of_getElem? (i := 839) (by decide +kernel), List.mem_of_getElem? (i := 840) (by decide +kernel)⟩
theorem lw_p43 : lw_okq (⟨"LoopEnvelopesModel", "isAmount", "(II)Z"⟩, 29) := ⟨⟨by decide +kernel, by decide +kernel⟩, List.mem_of_getElem? (i := 644) (by decide +kernel), List.mem_of_getElem? (i := 843) (by decide +kernel), List.mem_of_getElem? (i := 844) (by decide +kernel)⟩
theorem lw_p44 : lw_okq (⟨"LoopEnvelopesModel", "isCode", "(II)Z"⟩, 29) := ⟨⟨by decide +kernel, by decide +kernel⟩, List.mem_of_getElem? (i := 644) (by decide +kernel), List.mem_of_getElem? (i := 847) (by decide +kernel), List.mem_of_getElem? (i := 848) (by decide +kernel)⟩
theorem lw_p45 : lw_okq (⟨"LoopEnvelopesModel", "faultOf", "(III)I"⟩, 29) := ⟨⟨by decide +kernel, by decide +kernel⟩, List.mem_of_getElem? (i := 644) (by decide +kernel), List.mem_of_getElem? (i := 851) (by decide +kernel), List.mem_of_getElem? (i := 852) (by decide +kernel)⟩
theorem lw_p46 : lw_okq (⟨"LoopEnvelopesModel", "isOrder", "(II)Z"⟩, 29) := ⟨⟨by decide +kernel, by decide +kernel⟩, List.mem_of_getElem? (i := 644) (by decide +kernel), List.mem_of_getElem? (i := 855) (by decide +kernel), List.mem_of_getElem? (i := 856) (by decide +kernel)⟩
theorem lw_p47 : lw_okq (⟨"LoopEnvelopesModel", "ahead", "(III)I"⟩, 29) := ⟨⟨by decide +kernel, by decide +kernel⟩, List.mem_of_getElem? (i := 644) (by decide +kernel), List.mem_of_getElem? (i := 859) (by decide +kernel), List.mem_of_getElem? (i := 860) (by decide +kernel)⟩
def lw_privs_3 : List (MethodName × Nat) := [(⟨"LoopEnvelopesModel", "byteAt", "(III)I"⟩, 29), (⟨"LoopEnvelopesModel", "stands", "(I)Z"⟩, 29), (⟨"LoopEnvelopesModel", "hasFigures", "(IIII)Z"⟩, 29), (⟨"LoopEnvelopesModel", "isCount", "(II)Z"⟩, 29), (⟨"LoopEnvelopesModel", "numberOf", "(II)I"⟩, 29), (⟨"LoopEnvelopesModel", "isNumber", "(II)Z"⟩, 29), (⟨"LoopEnvelopesModel", "judge", "(I)V"⟩, 29), (⟨"LoopEnvelopesModel", "isWell", "(I)Z"⟩, 29), (⟨"LoopEnvelopesModel", "isKind", "(II)Z"⟩, 29), (⟨"LoopEnvelopesModel", "isMore", "(II)Z"⟩, 29), (⟨"LoopEnvelopesModel", "isWord", "(II)Z"⟩, 29), (⟨"LoopEnvelopesModel", "isAmount", "(II)Z"⟩, 29), (⟨"LoopEnvelopesModel", "isCode", "(II)Z"⟩, 29), (⟨"LoopEnvelopesModel", "faultOf", "(III)I"⟩, 29), (⟨"LoopEnvelopesModel", "isOrder", "(II)Z"⟩, 29), (⟨"LoopEnvelopesModel", "ahead", "(III)I"⟩, 29)]
theorem lw_r3 : ∀ q ∈ lw_privs_3, lw_okq q := List.forall_mem_cons.mpr ⟨lw_p32, List.forall_mem_cons.mpr ⟨lw_p33, List.forall_mem_cons.mpr ⟨lw_p34, List.forall_mem_cons.mpr ⟨lw_p35, List.forall_mem_cons.mpr ⟨lw_p36, List.forall_mem_cons.mpr ⟨lw_p37, List.forall_mem_cons.mpr ⟨lw_p38, List.forall_mem_cons.mpr ⟨lw_p39, List.forall_mem_cons.mpr ⟨lw_p40, List.forall_mem_cons.mpr ⟨lw_p41, List.forall_mem_cons.mpr ⟨lw_p42, List.forall_mem_cons.mpr ⟨lw_p43, List.forall_mem_cons.mpr ⟨lw_p44, List.forall_mem_cons.mpr ⟨lw_p45, List.forall_mem_cons.mpr ⟨lw_p46, List.forall_mem_cons.mpr ⟨lw_p47, fun _ h => absurd h List.not_mem_nil⟩⟩⟩⟩⟩⟩⟩⟩⟩⟩⟩⟩⟩⟩⟩⟩
theorem lw_p48 : lw_okq (⟨"LoopEnvelopesModel", "isLinked", "(II)Z"⟩, 29) := ⟨⟨by decide +kernel, by decide +kernel⟩, List.mem_of_getElem? (i := 644) (by decide +kernel), List.mem_of_getElem? (i := 863) (by decide +kernel), List.mem_of_getElem? (i := 864) (by decide +kernel)⟩
theorem lw_p49 : lw_okq (⟨"LoopEnvelopesModel", "many", "(III)I"⟩, 29) := ⟨⟨by decide +kernel, by decide +kernel⟩, List.mem_of_getElem? (i := 644) (by decide +kernel), List.mem_of_getElem? (i := 867) (by decide +kernel), List.mem_of_getElem? (i := 868) (by decide +kernel)⟩
theorem lw_p50 : lw_okq (⟨"LoopEnvelopesModel", "kindOf", "(I)I"⟩, 29) := ⟨⟨by decide +kernel, by decide +kernel⟩, List.mem_of_getElem? (i := 644) (by decide +kernel), List.mem_of_getElem? (i := 871) (by decide +kernel), List.mem_of_getElem? (i := 872) (by decide +kernel)⟩
theorem lw_p51 : lw_okq (⟨"LoopEnvelopesModel", "levelBy", "(IIII)I"⟩, 29) := ⟨⟨by decide +kernel, by decide +kernel⟩, List.mem_of_getElem? (i := 644) (by decide +kernel), List.mem_of_getElem? (i := 875) (by decide +kernel), List.mem_of_getElem? (i := 876) (by decide +kernel)⟩
theorem lw_p52 : lw_okq (⟨"LoopEnvelopesModel", "isLoose", "(I)Z"⟩, 29) := ⟨⟨by decide +kernel, by decide +kernel⟩, List.mem_of_getElem? (i := 644) (by decide +kernel), List.mem_of_getElem? (i := 879) (by decide +kernel), List.mem_of_getElem? (i := 880) (by decide +kernel)⟩
theorem lw_p53 : lw_okq (⟨"LoopEnvelopesModel", "linesAhead", "(II)I"⟩, 29) := ⟨⟨by decide +kernel, by decide +kernel⟩, List.mem_of_getElem? (i := 644) (by decide +kernel), List.mem_of_getElem? (i := 883) (by decide +kernel), List.mem_of_getElem? (i := 884) (by decide +kernel)⟩
theorem lw_p54 : lw_okq (⟨"LoopEnvelopesModel", "hasUnder", "(II)Z"⟩, 29) := ⟨⟨by decide +kernel, by decide +kernel⟩, List.mem_of_getElem? (i := 644) (by decide +kernel), List.mem_of_getElem? (i := 887) (by decide +kernel), List.mem_of_getElem? (i := 888) (by decide +kernel)⟩
theorem lw_p55 : lw_okq (⟨"LoopEnvelopesModel", "amountOf", "(II)I"⟩, 29) := ⟨⟨by decide +kernel, by decide +kernel⟩, List.mem_of_getElem? (i := 644) (by decide +kernel), List.mem_of_getElem? (i := 891) (by decide +kernel), List.mem_of_getElem? (i := 892) (by decide +kernel)⟩
theorem lw_p56 : lw_okq (⟨"LoopEnvelopesModel", "linesSum", "(II)I"⟩, 29) := ⟨⟨by decide +kernel, by decide +kernel⟩, List.mem_of_getElem? (i := 644) (by decide +kernel), List.mem_of_getElem? (i := 895) (by decide +kernel), List.mem_of_getElem? (i := 896) (by decide +kernel)⟩
theorem lw_p57 : lw_okq (⟨"LoopEnvelopesModel", "linesEnd", "(II)I"⟩, 29) := ⟨⟨by decide +kernel, by decide +kernel⟩, List.mem_of_getElem? (i := 644) (by decide +kernel), List.mem_of_getElem? (i := 899) (by decide +kernel), List.mem_of_getElem? (i := 900) (by decide +kernel)⟩
theorem lw_p58 : lw_okq (⟨"LoopEnvelopesModel", "right", "()I"⟩, 29) := ⟨⟨by decide +kernel, by decide +kernel⟩, List.mem_of_getElem? (i := 644) (by decide +kernel), List.mem_of_getElem? (i := 911) (by decide +kernel), List.mem_of_getElem? (i := 912) (by decide +kernel)⟩
theorem lw_p59 : lw_okq (⟨"LoopEnvelopesModel", "faults", "(I)I"⟩, 29) := ⟨⟨by decide +kernel, by decide +kernel⟩, List.mem_of_getElem? (i := 644) (by decide +kernel), List.mem_of_getElem? (i := 915) (by decide +kernel), List.mem_of_getElem? (i := 916) (by decide +kernel)⟩
theorem lw_p60 : lw_okq (⟨"LoopEnvelopesModel", "pick", "(III)I"⟩, 29) := ⟨⟨by decide +kernel, by decide +kernel⟩, List.mem_of_getElem? (i := 644) (by decide +kernel), List.mem_of_getElem? (i := 931) (by decide +kernel), List.mem_of_getElem? (i := 932) (by decide +kernel)⟩
theorem lw_p61 : lw_okq (⟨"LoopEnvelopesModel", "writeGroup", "(I)V"⟩, 29) := ⟨⟨by decide +kernel, by decide +kernel⟩, List.mem_of_getElem? (i := 644) (by decide +kernel), List.mem_of_getElem? (i := 955) (by decide +kernel), List.mem_of_getElem? (i := 956) (by decide +kernel)⟩
theorem lw_p62 : lw_okq (⟨"LoopEnvelopesModel", "write3", "(III)V"⟩, 29) := ⟨⟨by decide +kernel, by decide +kernel⟩, List.mem_of_getElem? (i := 644) (by decide +kernel), List.mem_of_getElem? (i := 959) (by decide +kernel), List.mem_of_getElem? (i := 960) (by decide +kernel)⟩
theorem lw_p63 : lw_okq (⟨"LoopEnvelopesModel", "write", "(I)V"⟩, 29) := ⟨⟨by decide +kernel, by decide +kernel⟩, List.mem_of_getElem? (i := 644) (by decide +kernel), List.mem_of_getElem? (i := 963) (by decide +kernel), List.mem_of_getElem? (i := 964) (by decide +kernel)⟩
def lw_privs_4 : List (MethodName × Nat) := [(⟨"LoopEnvelopesModel", "isLinked", "(II)Z"⟩, 29), (⟨"LoopEnvelopesModel", "many", "(III)I"⟩, 29), (⟨"LoopEnvelopesModel", "kindOf", "(I)I"⟩, 29), (⟨"LoopEnvelopesModel", "levelBy", "(IIII)I"⟩, 29), (⟨"LoopEnvelopesModel", "isLoose", "(I)Z"⟩, 29), (⟨"LoopEnvelopesModel", "linesAhead", "(II)I"⟩, 29), (⟨"LoopEnvelopesModel", "hasUnder", "(II)Z"⟩, 29), (⟨"LoopEnvelopesModel", "amountOf", "(II)I"⟩, 29), (⟨"LoopEnvelopesModel", "linesSum", "(II)I"⟩, 29), (⟨"LoopEnvelopesModel", "linesEnd", "(II)I"⟩, 29), (⟨"LoopEnvelopesModel", "right", "()I"⟩, 29), (⟨"LoopEnvelopesModel", "faults", "(I)I"⟩, 29), (⟨"LoopEnvelopesModel", "pick", "(III)I"⟩, 29), (⟨"LoopEnvelopesModel", "writeGroup", "(I)V"⟩, 29), (⟨"LoopEnvelopesModel", "write3", "(III)V"⟩, 29), (⟨"LoopEnvelopesModel", "write", "(I)V"⟩, 29)]
theorem lw_r4 : ∀ q ∈ lw_privs_4, lw_okq q := List.forall_mem_cons.mpr ⟨lw_p48, List.forall_mem_cons.mpr ⟨lw_p49, List.forall_mem_cons.mpr ⟨lw_p50, List.forall_mem_cons.mpr ⟨lw_p51, List.forall_mem_cons.mpr ⟨lw_p52, List.forall_mem_cons.mpr ⟨lw_p53, List.forall_mem_cons.mpr ⟨lw_p54, List.forall_mem_cons.mpr ⟨lw_p55, List.forall_mem_cons.mpr ⟨lw_p56, List.forall_mem_cons.mpr ⟨lw_p57, List.forall_mem_cons.mpr ⟨lw_p58, List.forall_mem_cons.mpr ⟨lw_p59, List.forall_mem_cons.mpr ⟨lw_p60, List.forall_mem_cons.mpr ⟨lw_p61, List.forall_mem_cons.mpr ⟨lw_p62, List.forall_mem_cons.mpr ⟨lw_p63, fun _ h => absurd h List.not_mem_nil⟩⟩⟩⟩⟩⟩⟩⟩⟩⟩⟩⟩⟩⟩⟩⟩
theorem lw_p64 : lw_okq (⟨"LoopEnvelopesModel", "writeElement", "(II)V"⟩, 29) := ⟨⟨by decide +kernel, by decide +kernel⟩, List.mem_of_getElem? (i := 644) (by decide +kernel), List.mem_of_getElem? (i := 967) (by decide +kernel), List.mem_of_getElem? (i := 968) (by decide +kernel)⟩
theorem lw_p65 : lw_okq (⟨"LoopEnvelopesModel", "writeSet", "(I)V"⟩, 29) := ⟨⟨by decide +kernel, by decide +kernel⟩, List.mem_of_getElem? (i := 644) (by decide +kernel), List.mem_of_getElem? (i := 971) (by decide +kernel), List.mem_of_getElem? (i := 972) (by decide +kernel)⟩
theorem lw_p66 : lw_okq (⟨"LoopEnvelopesModel", "writeNumber", "(I)V"⟩, 29) := ⟨⟨by decide +kernel, by decide +kernel⟩, List.mem_of_getElem? (i := 644) (by decide +kernel), List.mem_of_getElem? (i := 975) (by decide +kernel), List.mem_of_getElem? (i := 976) (by decide +kernel)⟩
def lw_privs_5 : List (MethodName × Nat) := [(⟨"LoopEnvelopesModel", "writeElement", "(II)V"⟩, 29), (⟨"LoopEnvelopesModel", "writeSet", "(I)V"⟩, 29), (⟨"LoopEnvelopesModel", "writeNumber", "(I)V"⟩, 29)]
theorem lw_r5 : ∀ q ∈ lw_privs_5, lw_okq q := List.forall_mem_cons.mpr ⟨lw_p64, List.forall_mem_cons.mpr ⟨lw_p65, List.forall_mem_cons.mpr ⟨lw_p66, fun _ h => absurd h List.not_mem_nil⟩⟩⟩
def lw_privs : List (MethodName × Nat) := lw_privs_1 ++ (lw_privs_2 ++ (lw_privs_3 ++ (lw_privs_4 ++ (lw_privs_5))))
def lw_tbl : List Cond := k2_sels lw_privs ++ tables_1
theorem lw_privs_ok : ∀ q ∈ lw_privs, lw_okq q := by
  show ∀ q ∈ lw_privs_1 ++ (lw_privs_2 ++ (lw_privs_3 ++ (lw_privs_4 ++ (lw_privs_5)))), lw_okq q
  exact List.forall_mem_append.mpr ⟨lw_r1, List.forall_mem_append.mpr ⟨lw_r2, List.forall_mem_append.mpr ⟨lw_r3, List.forall_mem_append.mpr ⟨lw_r4, lw_r5⟩⟩⟩⟩
end
section
theorem goodIn_r {big : List Cond} (ws : List Cond) (ps : List Nat) (hp : ws = ps.filterMap (fun i => big[i]?)) (h : ws.all goodWord = true) : GoodIn big ws := by
  intro w hw
  have h1 := List.all_eq_true.mp h w hw
  rw [hp] at hw
  obtain ⟨i, -, hi⟩ := List.mem_filterMap.mp hw
  have hm : w ∈ big := by first | exact List.mem_of_getElem? hi | exact List.getElem?_mem hi
  exact ⟨hm, good_of_word h1⟩
def RX0 : String := "LoopEnvelopes$Bytes"
def TX0 : u_T := fun k => match k with
  | 0 => ("LoopEnvelopes$Bytes", "cells", "[B", true)
  | _ => ("LoopEnvelopes$Bytes", "used", "I", false)
def tyX0 : Nat → FieldType := fun k => match k with
  | 0 => .array .byte
  | _ => .int
abbrev wsX00 : List Cond := u_ws RX0 TX0 2
theorem nmX0 : ∀ a, a < 2 → ∀ b, b < 2 → a ≠ b → (TX0 a).2.1 ≠ (TX0 b).2.1 := by decide +kernel
theorem tyX0_ok : ∀ k, k < 2 → parseFieldDescriptor (TX0 k).2.2.1 = some (tyX0 k) := by decide +kernel
abbrev cX0_init : ByteArray := prog_2_method_1_code
def yX0_init : MethodName := ⟨RX0, "<init>", "(I)V"⟩
abbrev cX0_length : ByteArray := prog_2_method_2_code
def yX0_length : MethodName := ⟨RX0, "length", "()I"⟩
abbrev cX0_at : ByteArray := prog_2_method_3_code
def yX0_at : MethodName := ⟨RX0, "at", "(I)I"⟩
abbrev cX0_append : ByteArray := prog_2_method_5_code
def yX0_append : MethodName := ⟨RX0, "append", "(I)Z"⟩
abbrev cX0_shorten : ByteArray := prog_2_method_6_code
def yX0_shorten : MethodName := ⟨RX0, "shorten", "(I)V"⟩
abbrev cX0_become : ByteArray := prog_2_method_7_code
def yX0_become : MethodName := ⟨RX0, "become", "(LLoopEnvelopes$Bytes;)V"⟩
def RX1 : String := "LoopEnvelopes$Frames"
def TX1 : u_T := fun k => match k with
  | 0 => ("LoopEnvelopes$Frames", "segments", "LLoopEnvelopes$Segments;", true)
  | 1 => ("LoopEnvelopes$Frames", "groups", "LLoopEnvelopes$Table;", true)
  | 2 => ("LoopEnvelopes$Frames", "sets", "LLoopEnvelopes$Table;", true)
  | 3 => ("LoopEnvelopes$Frames", "groupsHeld", "I", false)
  | 4 => ("LoopEnvelopes$Frames", "setsHeld", "I", false)
  | _ => ("LoopEnvelopes$Frames", "stage", "I", false)
def tyX1 : Nat → FieldType := fun k => match k with
  | 0 => .object "LoopEnvelopes$Segments"
  | 1 => .object "LoopEnvelopes$Table"
  | 2 => .object "LoopEnvelopes$Table"
  | 3 => .int
  | 4 => .int
  | _ => .int
abbrev wsX10 : List Cond := u_ws RX1 TX1 6
theorem nmX1 : ∀ a, a < 6 → ∀ b, b < 6 → a ≠ b → (TX1 a).2.1 ≠ (TX1 b).2.1 := by decide +kernel
theorem tyX1_ok : ∀ k, k < 6 → parseFieldDescriptor (TX1 k).2.2.1 = some (tyX1 k) := by decide +kernel
abbrev cX1_init : ByteArray := prog_3_method_1_code
def yX1_init : MethodName := ⟨RX1, "<init>", "(LLoopEnvelopes$Segments;)V"⟩
abbrev cX1_clear : ByteArray := prog_3_method_2_code
def yX1_clear : MethodName := ⟨RX1, "clear", "()V"⟩
def RX2 : String := "LoopEnvelopes$Judge"
def TX2 : u_T := fun k => match k with
  | 0 => ("LoopEnvelopes$Judge", "segments", "LLoopEnvelopes$Segments;", true)
  | 1 => ("LoopEnvelopes$Judge", "frames", "LLoopEnvelopes$Frames;", true)
  | 2 => ("LoopEnvelopes$Judge", "marks", "LLoopEnvelopes$Table;", true)
  | 3 => ("LoopEnvelopes$Judge", "first", "I", false)
  | _ => ("LoopEnvelopes$Judge", "end", "I", false)
def tyX2 : Nat → FieldType := fun k => match k with
  | 0 => .object "LoopEnvelopes$Segments"
  | 1 => .object "LoopEnvelopes$Frames"
  | 2 => .object "LoopEnvelopes$Table"
  | 3 => .int
  | _ => .int
abbrev wsX20 : List Cond := u_ws RX2 TX2 5
theorem nmX2 : ∀ a, a < 5 → ∀ b, b < 5 → a ≠ b → (TX2 a).2.1 ≠ (TX2 b).2.1 := by decide +kernel
theorem tyX2_ok : ∀ k, k < 5 → parseFieldDescriptor (TX2 k).2.2.1 = some (tyX2 k) := by decide +kernel
abbrev cX2_init : ByteArray := prog_4_method_1_code
def yX2_init : MethodName := ⟨RX2, "<init>", "(LLoopEnvelopes$Segments;LLoopEnvelopes$Frames;)V"⟩
def RX3 : String := "LoopEnvelopes$Segments"
def TX3 : u_T := fun k => match k with
  | 0 => ("LoopEnvelopes$Segments", "bytes", "LLoopEnvelopes$Bytes;", true)
  | 1 => ("LoopEnvelopes$Segments", "begins", "LLoopEnvelopes$Table;", true)
  | 2 => ("LoopEnvelopes$Segments", "names", "LLoopEnvelopes$Table;", true)
  | 3 => ("LoopEnvelopes$Segments", "elements", "LLoopEnvelopes$Table;", true)
  | _ => ("LoopEnvelopes$Segments", "held", "I", false)
def tyX3 : Nat → FieldType := fun k => match k with
  | 0 => .object "LoopEnvelopes$Bytes"
  | 1 => .object "LoopEnvelopes$Table"
  | 2 => .object "LoopEnvelopes$Table"
  | 3 => .object "LoopEnvelopes$Table"
  | _ => .int
abbrev wsX30 : List Cond := u_ws RX3 TX3 5
theorem nmX3 : ∀ a, a < 5 → ∀ b, b < 5 → a ≠ b → (TX3 a).2.1 ≠ (TX3 b).2.1 := by decide +kernel
theorem tyX3_ok : ∀ k, k < 5 → parseFieldDescriptor (TX3 k).2.2.1 = some (tyX3 k) := by decide +kernel
abbrev cX3_init : ByteArray := prog_5_method_1_code
def yX3_init : MethodName := ⟨RX3, "<init>", "()V"⟩
abbrev cX3_take : ByteArray := prog_5_method_2_code
def yX3_take : MethodName := ⟨RX3, "take", "(LLoopEnvelopes$Bytes;)V"⟩
abbrev cX3_splitter : ByteArray := prog_5_method_5_code
def yX3_splitter : MethodName := ⟨RX3, "splitter", "()I"⟩
abbrev cX3_closer : ByteArray := prog_5_method_6_code
def yX3_closer : MethodName := ⟨RX3, "closer", "()I"⟩
abbrev cX3_opens : ByteArray := prog_5_method_8_code
def yX3_opens : MethodName := ⟨RX3, "opens", "()Z"⟩
def RX4 : String := "LoopEnvelopes$Table"
def TX4 : u_T := fun k => match k with
  | 0 => ("LoopEnvelopes$Table", "rows", "I", true)
  | 1 => ("LoopEnvelopes$Table", "columns", "I", true)
  | _ => ("LoopEnvelopes$Table", "cells", "[I", true)
def tyX4 : Nat → FieldType := fun k => match k with
  | 0 => .int
  | 1 => .int
  | _ => .array .int
abbrev wsX40 : List Cond := u_ws RX4 TX4 3
theorem nmX4 : ∀ a, a < 3 → ∀ b, b < 3 → a ≠ b → (TX4 a).2.1 ≠ (TX4 b).2.1 := by decide +kernel
theorem tyX4_ok : ∀ k, k < 3 → parseFieldDescriptor (TX4 k).2.2.1 = some (tyX4 k) := by decide +kernel
abbrev cX4_init : ByteArray := prog_6_method_1_code
def yX4_init : MethodName := ⟨RX4, "<init>", "(II)V"⟩
def RX5 : String := "LoopEnvelopes$Writer"
def TX5 : u_T := fun k => match k with
  | 0 => ("LoopEnvelopes$Writer", "segments", "LLoopEnvelopes$Segments;", true)
  | 1 => ("LoopEnvelopes$Writer", "bytes", "LLoopEnvelopes$Bytes;", true)
  | _ => ("LoopEnvelopes$Writer", "over", "Z", false)
def tyX5 : Nat → FieldType := fun k => match k with
  | 0 => .object "LoopEnvelopes$Segments"
  | 1 => .object "LoopEnvelopes$Bytes"
  | _ => .boolean
abbrev wsX50 : List Cond := u_ws RX5 TX5 3
theorem nmX5 : ∀ a, a < 3 → ∀ b, b < 3 → a ≠ b → (TX5 a).2.1 ≠ (TX5 b).2.1 := by decide +kernel
theorem tyX5_ok : ∀ k, k < 3 → parseFieldDescriptor (TX5 k).2.2.1 = some (tyX5 k) := by decide +kernel
abbrev cX5_init : ByteArray := prog_7_method_1_code
def yX5_init : MethodName := ⟨RX5, "<init>", "(LLoopEnvelopes$Segments;)V"⟩
abbrev cX5_length : ByteArray := prog_7_method_2_code
def yX5_length : MethodName := ⟨RX5, "length", "()I"⟩
abbrev cX5_at : ByteArray := prog_7_method_3_code
def yX5_at : MethodName := ⟨RX5, "at", "(I)I"⟩
def RX6 : String := "LoopEnvelopes"
def TX6 : u_T := fun k => match k with
  | 0 => ("LoopEnvelopes", "text", "LLoopEnvelopes$Bytes;", true)
  | 1 => ("LoopEnvelopes", "segments", "LLoopEnvelopes$Segments;", true)
  | 2 => ("LoopEnvelopes", "frames", "LLoopEnvelopes$Frames;", true)
  | 3 => ("LoopEnvelopes", "judge", "LLoopEnvelopes$Judge;", true)
  | 4 => ("LoopEnvelopes", "writer", "LLoopEnvelopes$Writer;", true)
  | 5 => ("LoopEnvelopes", "place", "I", false)
  | _ => ("LoopEnvelopes", "taken", "Z", false)
def tyX6 : Nat → FieldType := fun k => match k with
  | 0 => .object "LoopEnvelopes$Bytes"
  | 1 => .object "LoopEnvelopes$Segments"
  | 2 => .object "LoopEnvelopes$Frames"
  | 3 => .object "LoopEnvelopes$Judge"
  | 4 => .object "LoopEnvelopes$Writer"
  | 5 => .int
  | _ => .boolean
abbrev wsX60 : List Cond := u_ws RX6 TX6 7
theorem nmX6 : ∀ a, a < 7 → ∀ b, b < 7 → a ≠ b → (TX6 a).2.1 ≠ (TX6 b).2.1 := by decide +kernel
theorem tyX6_ok : ∀ k, k < 7 → parseFieldDescriptor (TX6 k).2.2.1 = some (tyX6 k) := by decide +kernel
abbrev cX6_init : ByteArray := prog_1_method_1_code
def yX6_init : MethodName := ⟨RX6, "<init>", "()V"⟩
abbrev cX6_feed : ByteArray := prog_1_method_2_code
def yX6_feed : MethodName := ⟨RX6, "feed", "(JI)I"⟩
abbrev cX6_set : ByteArray := prog_1_method_3_code
def yX6_set : MethodName := ⟨RX6, "set", "(II)I"⟩
abbrev cX6_cut : ByteArray := prog_1_method_4_code
def yX6_cut : MethodName := ⟨RX6, "cut", "(I)I"⟩
abbrev cX6_read : ByteArray := prog_1_method_5_code
def yX6_read : MethodName := ⟨RX6, "read", "()I"⟩
abbrev cX6_where : ByteArray := prog_1_method_6_code
def yX6_where : MethodName := ⟨RX6, "where", "()I"⟩
abbrev cX6_count : ByteArray := prog_1_method_7_code
def yX6_count : MethodName := ⟨RX6, "count", "(I)I"⟩
abbrev cX6_group : ByteArray := prog_1_method_8_code
def yX6_group : MethodName := ⟨RX6, "group", "(II)I"⟩
abbrev cX6_setOf : ByteArray := prog_1_method_9_code
def yX6_setOf : MethodName := ⟨RX6, "setOf", "(II)I"⟩
abbrev cX6_fault : ByteArray := prog_1_method_10_code
def yX6_fault : MethodName := ⟨RX6, "fault", "(III)I"⟩
abbrev cX6_level : ByteArray := prog_1_method_11_code
def yX6_level : MethodName := ⟨RX6, "level", "(III)I"⟩
abbrev cX6_claim : ByteArray := prog_1_method_12_code
def yX6_claim : MethodName := ⟨RX6, "claim", "(III)I"⟩
abbrev cX6_size : ByteArray := prog_1_method_13_code
def yX6_size : MethodName := ⟨RX6, "size", "(II)I"⟩
abbrev cX6_byteOf : ByteArray := prog_1_method_14_code
def yX6_byteOf : MethodName := ⟨RX6, "byteOf", "(III)I"⟩
abbrev cX6_answer : ByteArray := prog_1_method_15_code
def yX6_answer : MethodName := ⟨RX6, "answer", "()I"⟩
abbrev cX6_answered : ByteArray := prog_1_method_16_code
def yX6_answered : MethodName := ⟨RX6, "answered", "(I)I"⟩
abbrev cX6_turn : ByteArray := prog_1_method_17_code
def yX6_turn : MethodName := ⟨RX6, "turn", "()I"⟩
abbrev cX6_tell : ByteArray := prog_1_method_19_code
def yX6_tell : MethodName := ⟨RX6, "tell", "(II)I"⟩
def RX7 : String := "LoopEnvelopesModel"
def TX7 : u_T := fun k => match k with
  | 0 => ("LoopEnvelopesModel", "size", "I", false)
  | 1 => ("LoopEnvelopesModel", "text", "[I", true)
  | 2 => ("LoopEnvelopesModel", "isTaken", "Z", false)
  | 3 => ("LoopEnvelopesModel", "where", "I", false)
  | 4 => ("LoopEnvelopesModel", "e", "I", false)
  | 5 => ("LoopEnvelopesModel", "p", "I", false)
  | 6 => ("LoopEnvelopesModel", "s", "I", false)
  | 7 => ("LoopEnvelopesModel", "was", "[I", true)
  | 8 => ("LoopEnvelopesModel", "number", "I", false)
  | 9 => ("LoopEnvelopesModel", "segments", "I", false)
  | 10 => ("LoopEnvelopesModel", "nameOf", "[I", true)
  | 11 => ("LoopEnvelopesModel", "elements", "[I", true)
  | 12 => ("LoopEnvelopesModel", "from", "[I", true)
  | 13 => ("LoopEnvelopesModel", "long0", "[I", true)
  | 14 => ("LoopEnvelopesModel", "isIll", "[Z", true)
  | 15 => ("LoopEnvelopesModel", "fault", "[I", true)
  | 16 => ("LoopEnvelopesModel", "depth", "[I", true)
  | 17 => ("LoopEnvelopesModel", "groups", "I", false)
  | 18 => ("LoopEnvelopesModel", "groupSegment", "[I", true)
  | 19 => ("LoopEnvelopesModel", "groupFirst", "[I", true)
  | 20 => ("LoopEnvelopesModel", "groupSets", "[I", true)
  | 21 => ("LoopEnvelopesModel", "sets", "I", false)
  | 22 => ("LoopEnvelopesModel", "setGroup", "[I", true)
  | 23 => ("LoopEnvelopesModel", "setFirst", "[I", true)
  | 24 => ("LoopEnvelopesModel", "setMany", "[I", true)
  | 25 => ("LoopEnvelopesModel", "answered", "I", false)
  | 26 => ("LoopEnvelopesModel", "answer", "[I", true)
  | 27 => ("LoopEnvelopesModel", "isFull", "Z", false)
  | _ => ("LoopEnvelopesModel", "state", "I", false)
def tyX7 : Nat → FieldType := fun k => match k with
  | 0 => .int
  | 1 => .array .int
  | 2 => .boolean
  | 3 => .int
  | 4 => .int
  | 5 => .int
  | 6 => .int
  | 7 => .array .int
  | 8 => .int
  | 9 => .int
  | 10 => .array .int
  | 11 => .array .int
  | 12 => .array .int
  | 13 => .array .int
  | 14 => .array .boolean
  | 15 => .array .int
  | 16 => .array .int
  | 17 => .int
  | 18 => .array .int
  | 19 => .array .int
  | 20 => .array .int
  | 21 => .int
  | 22 => .array .int
  | 23 => .array .int
  | 24 => .array .int
  | 25 => .int
  | 26 => .array .int
  | 27 => .boolean
  | _ => .int
abbrev wsX70 : List Cond := u_ws RX7 TX7 29
theorem nmX7 : ∀ a, a < 29 → ∀ b, b < 29 → a ≠ b → (TX7 a).2.1 ≠ (TX7 b).2.1 := by decide +kernel
theorem tyX7_ok : ∀ k, k < 29 → parseFieldDescriptor (TX7 k).2.2.1 = some (tyX7 k) := by decide +kernel
abbrev cX7_init : ByteArray := prog_9_method_1_code
def yX7_init : MethodName := ⟨RX7, "<init>", "()V"⟩
abbrev cX7_in : ByteArray := prog_9_method_2_code
def yX7_in : MethodName := ⟨RX7, "in", "(III)Z"⟩
abbrev cX7_feed : ByteArray := prog_9_method_3_code
def yX7_feed : MethodName := ⟨RX7, "feed", "(JI)I"⟩
abbrev cX7_set : ByteArray := prog_9_method_4_code
def yX7_set : MethodName := ⟨RX7, "set", "(II)I"⟩
abbrev cX7_cut : ByteArray := prog_9_method_5_code
def yX7_cut : MethodName := ⟨RX7, "cut", "(I)I"⟩
abbrev cX7_isOpening : ByteArray := prog_9_method_10_code
def yX7_isOpening : MethodName := ⟨RX7, "isOpening", "()Z"⟩
abbrev cX7_found : ByteArray := prog_9_method_25_code
def yX7_found : MethodName := ⟨RX7, "found", "(II)I"⟩
abbrev cX7_read : ByteArray := prog_9_method_30_code
def yX7_read : MethodName := ⟨RX7, "read", "()I"⟩
abbrev cX7_where : ByteArray := prog_9_method_45_code
def yX7_where : MethodName := ⟨RX7, "where", "()I"⟩
abbrev cX7_count : ByteArray := prog_9_method_47_code
def yX7_count : MethodName := ⟨RX7, "count", "(I)I"⟩
abbrev cX7_group : ByteArray := prog_9_method_48_code
def yX7_group : MethodName := ⟨RX7, "group", "(II)I"⟩
abbrev cX7_setOf : ByteArray := prog_9_method_49_code
def yX7_setOf : MethodName := ⟨RX7, "setOf", "(II)I"⟩
abbrev cX7_fault : ByteArray := prog_9_method_51_code
def yX7_fault : MethodName := ⟨RX7, "fault", "(III)I"⟩
abbrev cX7_level : ByteArray := prog_9_method_52_code
def yX7_level : MethodName := ⟨RX7, "level", "(III)I"⟩
abbrev cX7_claim : ByteArray := prog_9_method_53_code
def yX7_claim : MethodName := ⟨RX7, "claim", "(III)I"⟩
abbrev cX7_size : ByteArray := prog_9_method_54_code
def yX7_size : MethodName := ⟨RX7, "size", "(II)I"⟩
abbrev cX7_byteOf : ByteArray := prog_9_method_55_code
def yX7_byteOf : MethodName := ⟨RX7, "byteOf", "(III)I"⟩
abbrev cX7_answer : ByteArray := prog_9_method_62_code
def yX7_answer : MethodName := ⟨RX7, "answer", "()I"⟩
abbrev cX7_answered : ByteArray := prog_9_method_63_code
def yX7_answered : MethodName := ⟨RX7, "answered", "(I)I"⟩
abbrev cX7_turn : ByteArray := prog_9_method_64_code
def yX7_turn : MethodName := ⟨RX7, "turn", "()I"⟩
def RL : String := "LoopEnvelopesLaw"
abbrev cL_law : ByteArray := code
abbrev vwCl : List vw_C := [(RX0, TX0, 2), (RX1, TX1, 6), (RX2, TX2, 5), (RX3, TX3, 5), (RX4, TX4, 3), (RX5, TX5, 3), (RX6, TX6, 7), (RX7, TX7, 29)]
def pw_0 : List Cond := [.methodLink RX0 3 objectInit, .instanceMethod objectInit, .code objectInit ⟨#[0xb1]⟩ 1 none, .methodLink RX0 9 Lib.Math.max.name, .static Lib.Math.max.name, .initialized "java/lang/Math", .code Lib.Math.max.name Lib.Math.max.code 2 (some .int), .arrayClass .byte, .fieldLink RX0 15 "LoopEnvelopes$Bytes" "cells" "[B", .fieldLink RX0 21 "LoopEnvelopes$Bytes" "used" "I", .methodLink RX4 3 objectInit, .fieldLink RX4 9 "LoopEnvelopes$Table" "rows" "I", .fieldLink RX4 15 "LoopEnvelopes$Table" "columns" "I", .methodLink RX4 18 Lib.Math.max.name, .arrayClass .int, .fieldLink RX4 24 "LoopEnvelopes$Table" "cells" "[I"]
def pw_1 : List Cond := [.methodLink RX3 3 objectInit, .classLink RX3 9 RX0, .instantiable RX0 2, .initialized RX0, .code yX0_init cX0_init 2 none, .methodLink RX3 11 yX0_init, .instanceMethod yX0_init, .fieldLink RX3 14 "LoopEnvelopes$Segments" "bytes" "LLoopEnvelopes$Bytes;", .classLink RX3 20 RX4, .instantiable RX4 3, .initialized RX4, .code yX4_init cX4_init 3 none, .methodLink RX3 22 yX4_init, .instanceMethod yX4_init, .fieldLink RX3 25 "LoopEnvelopes$Segments" "begins" "LLoopEnvelopes$Table;", .fieldLink RX3 29 "LoopEnvelopes$Segments" "names" "LLoopEnvelopes$Table;"]
def pw_2 : List Cond := [.fieldLink RX3 32 "LoopEnvelopes$Segments" "elements" "LLoopEnvelopes$Table;", .fieldLink RX3 35 "LoopEnvelopes$Segments" "held" "I", .methodLink RX1 3 objectInit, .fieldLink RX1 9 "LoopEnvelopes$Frames" "segments" "LLoopEnvelopes$Segments;", .classLink RX1 15 RX4, .methodLink RX1 17 yX4_init, .fieldLink RX1 20 "LoopEnvelopes$Frames" "groups" "LLoopEnvelopes$Table;", .fieldLink RX1 24 "LoopEnvelopes$Frames" "sets" "LLoopEnvelopes$Table;", .fieldLink RX1 27 "LoopEnvelopes$Frames" "groupsHeld" "I", .fieldLink RX1 31 "LoopEnvelopes$Frames" "setsHeld" "I", .fieldLink RX1 34 "LoopEnvelopes$Frames" "stage" "I", .methodLink RX2 3 objectInit, .fieldLink RX2 9 "LoopEnvelopes$Judge" "segments" "LLoopEnvelopes$Segments;", .fieldLink RX2 15 "LoopEnvelopes$Judge" "frames" "LLoopEnvelopes$Frames;", .classLink RX2 19 RX4, .methodLink RX2 21 yX4_init]
def pw_3 : List Cond := [.fieldLink RX2 24 "LoopEnvelopes$Judge" "marks" "LLoopEnvelopes$Table;", .fieldLink RX2 28 "LoopEnvelopes$Judge" "first" "I", .fieldLink RX2 32 "LoopEnvelopes$Judge" "end" "I", .methodLink RX5 3 objectInit, .fieldLink RX5 9 "LoopEnvelopes$Writer" "segments" "LLoopEnvelopes$Segments;", .classLink RX5 15 RX0, .methodLink RX5 17 yX0_init, .fieldLink RX5 20 "LoopEnvelopes$Writer" "bytes" "LLoopEnvelopes$Bytes;", .fieldLink RX5 24 "LoopEnvelopes$Writer" "over" "Z", .methodLink RX6 3 objectInit, .classLink RX6 9 RX0, .methodLink RX6 11 yX0_init, .fieldLink RX6 14 "LoopEnvelopes" "text" "LLoopEnvelopes$Bytes;", .classLink RX6 18 RX3, .instantiable RX3 5, .initialized RX3]
def pw_4 : List Cond := [.code yX3_init cX3_init 1 none, .methodLink RX6 20 yX3_init, .instanceMethod yX3_init, .fieldLink RX6 21 "LoopEnvelopes" "segments" "LLoopEnvelopes$Segments;", .classLink RX6 25 RX1, .instantiable RX1 6, .initialized RX1, .code yX1_init cX1_init 2 none, .methodLink RX6 27 yX1_init, .instanceMethod yX1_init, .fieldLink RX6 30 "LoopEnvelopes" "frames" "LLoopEnvelopes$Frames;", .classLink RX6 34 RX2, .instantiable RX2 5, .initialized RX2, .code yX2_init cX2_init 3 none, .methodLink RX6 36 yX2_init]
def pw_5 : List Cond := [.instanceMethod yX2_init, .fieldLink RX6 39 "LoopEnvelopes" "judge" "LLoopEnvelopes$Judge;", .classLink RX6 43 RX5, .instantiable RX5 3, .initialized RX5, .code yX5_init cX5_init 2 none, .methodLink RX6 45 yX5_init, .instanceMethod yX5_init, .fieldLink RX6 46 "LoopEnvelopes" "writer" "LLoopEnvelopes$Writer;", .fieldLink RX6 50 "LoopEnvelopes" "place" "I", .fieldLink RX6 54 "LoopEnvelopes" "taken" "Z", .methodLink RX0 25 Lib.Math.min.name, .static Lib.Math.min.name, .code Lib.Math.min.name Lib.Math.min.code 2 (some .int), .methodLink RX3 39 yX0_become, .instanceMethod yX0_become]
def pw_6 : List Cond := [.selects RX0 yX0_become yX0_become, .code yX0_become cX0_become 3 none, .methodLink RX3 47 yX0_at, .instanceMethod yX0_at, .selects RX0 yX0_at yX0_at, .code yX0_at cX0_at 2 (some .int), .methodLink RX3 55 yX3_splitter, .instanceMethod yX3_splitter, .selects RX3 yX3_splitter yX3_splitter, .code yX3_splitter cX3_splitter 1 (some .int), .methodLink RX3 58 yX3_closer, .instanceMethod yX3_closer, .selects RX3 yX3_closer yX3_closer, .code yX3_closer cX3_closer 1 (some .int), .methodLink RX3 43 yX0_length, .instanceMethod yX0_length]
def pw_7 : List Cond := [.selects RX0 yX0_length yX0_length, .code yX0_length cX0_length 1 (some .int), .methodLink RX5 32 yX0_at, .methodLink RX5 28 yX0_length, .methodLink RX6 58 yX0_length, .methodLink RX6 76 yX0_shorten, .instanceMethod yX0_shorten, .selects RX0 yX0_shorten yX0_shorten, .code yX0_shorten cX0_shorten 2 none, .methodLink RX6 103 yX5_length, .instanceMethod yX5_length, .selects RX5 yX5_length yX5_length, .code yX5_length cX5_length 1 (some .int), .methodLink RX6 169 yX5_at, .instanceMethod yX5_at, .selects RX5 yX5_at yX5_at]
def pw_8 : List Cond := [.code yX5_at cX5_at 2 (some .int), .methodLink RX6 79 yX3_take, .instanceMethod yX3_take, .selects RX3 yX3_take yX3_take, .code yX3_take cX3_take 2 none, .methodLink RX6 83 yX1_clear, .instanceMethod yX1_clear, .selects RX1 yX1_clear yX1_clear, .code yX1_clear cX1_clear 1 none, .methodLink RX6 86 yX3_opens, .instanceMethod yX3_opens, .selects RX3 yX3_opens yX3_opens, .code yX3_opens cX3_opens 4 (some .boolean), .methodLink RX6 93 yX6_tell, .instanceMethod yX6_tell, .selects RX6 yX6_tell yX6_tell]
def pw_9 : List Cond := [.initialized RX6, .code yX6_tell cX6_tell 3 (some .int), .constantLong RX6 62 (255), .methodLink RX6 64 yX0_append, .instanceMethod yX0_append, .selects RX0 yX0_append yX0_append, .code yX0_append cX0_append 2 (some .boolean), .methodLink RX7 1 objectInit, .fieldLink RX7 7 "LoopEnvelopesModel" "text" "[I", .fieldLink RX7 13 "LoopEnvelopesModel" "where" "I", .fieldLink RX7 17 "LoopEnvelopesModel" "was" "[I", .fieldLink RX7 20 "LoopEnvelopesModel" "nameOf" "[I", .fieldLink RX7 23 "LoopEnvelopesModel" "elements" "[I", .fieldLink RX7 26 "LoopEnvelopesModel" "from" "[I", .fieldLink RX7 29 "LoopEnvelopesModel" "long0" "[I", .arrayClass .boolean]
def pw_10 : List Cond := [.fieldLink RX7 32 "LoopEnvelopesModel" "isIll" "[Z", .fieldLink RX7 36 "LoopEnvelopesModel" "fault" "[I", .fieldLink RX7 39 "LoopEnvelopesModel" "depth" "[I", .fieldLink RX7 42 "LoopEnvelopesModel" "groupSegment" "[I", .fieldLink RX7 45 "LoopEnvelopesModel" "groupFirst" "[I", .fieldLink RX7 48 "LoopEnvelopesModel" "groupSets" "[I", .fieldLink RX7 51 "LoopEnvelopesModel" "setGroup" "[I", .fieldLink RX7 54 "LoopEnvelopesModel" "setFirst" "[I", .fieldLink RX7 57 "LoopEnvelopesModel" "setMany" "[I", .fieldLink RX7 60 "LoopEnvelopesModel" "answer" "[I", .fieldLink RX7 119 "LoopEnvelopesModel" "isTaken" "Z", .fieldLink RX7 67 "LoopEnvelopesModel" "size" "I", .methodLink RX7 63 yX7_in, .static yX7_in, .initialized RX7, .code yX7_in cX7_in 3 (some .boolean)]
def pw_11 : List Cond := [.fieldLink RX7 223 "LoopEnvelopesModel" "answered" "I", .methodLink RX7 147 yX7_isOpening, .instanceMethod yX7_isOpening, .selects RX7 yX7_isOpening yX7_isOpening, .code yX7_isOpening cX7_isOpening 3 (some .boolean), .methodLink RX7 151 yX7_found, .instanceMethod yX7_found, .selects RX7 yX7_found yX7_found, .code yX7_found cX7_found 3 (some .int), .constantLong RX7 70 (255), .classLink RL 7 RX6, .instantiable RX6 7, .code yX6_init cX6_init 1 none, .methodLink RL 9 yX6_init, .instanceMethod yX6_init, .classLink RL 10 RX7]
def pw_12 : List Cond := [.instantiable RX7 29, .code yX7_init cX7_init 1 none, .methodLink RL 12 yX7_init, .instanceMethod yX7_init, .constantLong RL 13 (4294967295), .methodLink RL 15 yX6_feed, .instanceMethod yX6_feed, .selects RX6 yX6_feed yX6_feed, .code yX6_feed cX6_feed 5 (some .int), .methodLink RL 19 yX7_feed, .instanceMethod yX7_feed, .selects RX7 yX7_feed yX7_feed, .code yX7_feed cX7_feed 5 (some .int), .methodLink RL 20 yX6_set, .instanceMethod yX6_set, .selects RX6 yX6_set yX6_set]
def pw_13 : List Cond := [.code yX6_set cX6_set 4 (some .int), .methodLink RL 24 yX7_set, .instanceMethod yX7_set, .selects RX7 yX7_set yX7_set, .code yX7_set cX7_set 4 (some .int), .methodLink RL 25 yX6_cut, .instanceMethod yX6_cut, .selects RX6 yX6_cut yX6_cut, .code yX6_cut cX6_cut 3 (some .int), .methodLink RL 29 yX7_cut, .instanceMethod yX7_cut, .selects RX7 yX7_cut yX7_cut, .code yX7_cut cX7_cut 3 (some .int), .methodLink RL 30 yX6_read, .instanceMethod yX6_read, .selects RX6 yX6_read yX6_read]
def pw_14 : List Cond := [.code yX6_read cX6_read 3 (some .int), .methodLink RL 34 yX7_read, .instanceMethod yX7_read, .selects RX7 yX7_read yX7_read, .code yX7_read cX7_read 5 (some .int), .methodLink RL 35 yX6_where, .instanceMethod yX6_where, .selects RX6 yX6_where yX6_where, .code yX6_where cX6_where 1 (some .int), .methodLink RL 38 yX7_where, .instanceMethod yX7_where, .selects RX7 yX7_where yX7_where, .code yX7_where cX7_where 1 (some .int), .methodLink RL 39 yX6_count, .instanceMethod yX6_count, .selects RX6 yX6_count yX6_count]
def pw_15 : List Cond := [.code yX6_count cX6_count 2 (some .int), .methodLink RL 42 yX7_count, .instanceMethod yX7_count, .selects RX7 yX7_count yX7_count, .code yX7_count cX7_count 2 (some .int), .methodLink RL 43 yX6_group, .instanceMethod yX6_group, .selects RX6 yX6_group yX6_group, .code yX6_group cX6_group 3 (some .int), .methodLink RL 46 yX7_group, .instanceMethod yX7_group, .selects RX7 yX7_group yX7_group, .code yX7_group cX7_group 4 (some .int), .methodLink RL 47 yX6_setOf, .instanceMethod yX6_setOf, .selects RX6 yX6_setOf yX6_setOf]
def pw_16 : List Cond := [.code yX6_setOf cX6_setOf 3 (some .int), .methodLink RL 50 yX7_setOf, .instanceMethod yX7_setOf, .selects RX7 yX7_setOf yX7_setOf, .code yX7_setOf cX7_setOf 7 (some .int), .methodLink RL 51 yX6_fault, .instanceMethod yX6_fault, .selects RX6 yX6_fault yX6_fault, .code yX6_fault cX6_fault 5 (some .int), .methodLink RL 55 yX7_fault, .instanceMethod yX7_fault, .selects RX7 yX7_fault yX7_fault, .code yX7_fault cX7_fault 5 (some .int), .methodLink RL 56 yX6_level, .instanceMethod yX6_level, .selects RX6 yX6_level yX6_level]
def pw_17 : List Cond := [.code yX6_level cX6_level 5 (some .int), .methodLink RL 59 yX7_level, .instanceMethod yX7_level, .selects RX7 yX7_level yX7_level, .code yX7_level cX7_level 5 (some .int), .methodLink RL 60 yX6_claim, .instanceMethod yX6_claim, .selects RX6 yX6_claim yX6_claim, .code yX6_claim cX6_claim 6 (some .int), .methodLink RL 63 yX7_claim, .instanceMethod yX7_claim, .selects RX7 yX7_claim yX7_claim, .code yX7_claim cX7_claim 7 (some .int), .methodLink RL 64 yX6_size, .instanceMethod yX6_size, .selects RX6 yX6_size yX6_size]
def pw_18 : List Cond := [.code yX6_size cX6_size 3 (some .int), .methodLink RL 67 yX7_size, .instanceMethod yX7_size, .selects RX7 yX7_size yX7_size, .code yX7_size cX7_size 3 (some .int), .methodLink RL 68 yX6_byteOf, .instanceMethod yX6_byteOf, .selects RX6 yX6_byteOf yX6_byteOf, .code yX6_byteOf cX6_byteOf 5 (some .int), .methodLink RL 71 yX7_byteOf, .instanceMethod yX7_byteOf, .selects RX7 yX7_byteOf yX7_byteOf, .code yX7_byteOf cX7_byteOf 4 (some .int), .methodLink RL 72 yX6_answer, .instanceMethod yX6_answer, .selects RX6 yX6_answer yX6_answer]
def pw_19 : List Cond := [.code yX6_answer cX6_answer 2 (some .int), .methodLink RL 75 yX7_answer, .instanceMethod yX7_answer, .selects RX7 yX7_answer yX7_answer, .code yX7_answer cX7_answer 2 (some .int), .methodLink RL 76 yX6_answered, .instanceMethod yX6_answered, .selects RX6 yX6_answered yX6_answered, .code yX6_answered cX6_answered 3 (some .int), .methodLink RL 79 yX7_answered, .instanceMethod yX7_answered, .selects RX7 yX7_answered yX7_answered, .code yX7_answered cX7_answered 2 (some .int), .methodLink RL 80 yX6_turn, .instanceMethod yX6_turn, .selects RX6 yX6_turn yX6_turn]
def pw_20 : List Cond := [.code yX6_turn cX6_turn 2 (some .int), .methodLink RL 83 yX7_turn, .instanceMethod yX7_turn, .selects RX7 yX7_turn yX7_turn, .code yX7_turn cX7_turn 2 (some .int)]
def pwAll : List Cond := pw_0 ++ (pw_1 ++ (pw_2 ++ (pw_3 ++ (pw_4 ++ (pw_5 ++ (pw_6 ++ (pw_7 ++ (pw_8 ++ (pw_9 ++ (pw_10 ++ (pw_11 ++ (pw_12 ++ (pw_13 ++ (pw_14 ++ (pw_15 ++ (pw_16 ++ (pw_17 ++ (pw_18 ++ (pw_19 ++ (pw_20 ++ (wsX00 ++ (wsX10 ++ (wsX20 ++ (wsX30 ++ (wsX40 ++ (wsX50 ++ (wsX60 ++ (wsX70))))))))))))))))))))))))))))
theorem sub_0 : ∀ w ∈ pw_0, w ∈ pwAll := fun _ h => List.mem_append_left _ (h)
theorem sub_1 : ∀ w ∈ pw_1, w ∈ pwAll := fun _ h => List.mem_append_right _ (List.mem_append_left _ (h))
theorem sub_2 : ∀ w ∈ pw_2, w ∈ pwAll := fun _ h => List.mem_append_right _ (List.mem_append_right _ (List.mem_append_left _ (h)))
theorem sub_3 : ∀ w ∈ pw_3, w ∈ pwAll := fun _ h => List.mem_append_right _ (List.mem_append_right _ (List.mem_append_right _ (List.mem_append_left _ (h))))
theorem sub_4 : ∀ w ∈ pw_4, w ∈ pwAll := fun _ h => List.mem_append_right _ (List.mem_append_right _ (List.mem_append_right _ (List.mem_append_right _ (List.mem_append_left _ (h)))))
theorem sub_5 : ∀ w ∈ pw_5, w ∈ pwAll := fun _ h => List.mem_append_right _ (List.mem_append_right _ (List.mem_append_right _ (List.mem_append_right _ (List.mem_append_right _ (List.mem_append_left _ (h))))))
theorem sub_6 : ∀ w ∈ pw_6, w ∈ pwAll := fun _ h => List.mem_append_right _ (List.mem_append_right _ (List.mem_append_right _ (List.mem_append_right _ (List.mem_append_right _ (List.mem_append_right _ (List.mem_append_left _ (h)))))))
theorem sub_7 : ∀ w ∈ pw_7, w ∈ pwAll := fun _ h => List.mem_append_right _ (List.mem_append_right _ (List.mem_append_right _ (List.mem_append_right _ (List.mem_append_right _ (List.mem_append_right _ (List.mem_append_right _ (List.mem_append_left _ (h))))))))
theorem sub_8 : ∀ w ∈ pw_8, w ∈ pwAll := fun _ h => List.mem_append_right _ (List.mem_append_right _ (List.mem_append_right _ (List.mem_append_right _ (List.mem_append_right _ (List.mem_append_right _ (List.mem_append_right _ (List.mem_append_right _ (List.mem_append_left _ (h)))))))))
theorem sub_9 : ∀ w ∈ pw_9, w ∈ pwAll := fun _ h => List.mem_append_right _ (List.mem_append_right _ (List.mem_append_right _ (List.mem_append_right _ (List.mem_append_right _ (List.mem_append_right _ (List.mem_append_right _ (List.mem_append_right _ (List.mem_append_right _ (List.mem_append_left _ (h))))))))))
theorem sub_10 : ∀ w ∈ pw_10, w ∈ pwAll := fun _ h => List.mem_append_right _ (List.mem_append_right _ (List.mem_append_right _ (List.mem_append_right _ (List.mem_append_right _ (List.mem_append_right _ (List.mem_append_right _ (List.mem_append_right _ (List.mem_append_right _ (List.mem_append_right _ (List.mem_append_left _ (h)))))))))))
theorem sub_11 : ∀ w ∈ pw_11, w ∈ pwAll := fun _ h => List.mem_append_right _ (List.mem_append_right _ (List.mem_append_right _ (List.mem_append_right _ (List.mem_append_right _ (List.mem_append_right _ (List.mem_append_right _ (List.mem_append_right _ (List.mem_append_right _ (List.mem_append_right _ (List.mem_append_right _ (List.mem_append_left _ (h))))))))))))
theorem sub_12 : ∀ w ∈ pw_12, w ∈ pwAll := fun _ h => List.mem_append_right _ (List.mem_append_right _ (List.mem_append_right _ (List.mem_append_right _ (List.mem_append_right _ (List.mem_append_right _ (List.mem_append_right _ (List.mem_append_right _ (List.mem_append_right _ (List.mem_append_right _ (List.mem_append_right _ (List.mem_append_right _ (List.mem_append_left _ (h)))))))))))))
theorem sub_13 : ∀ w ∈ pw_13, w ∈ pwAll := fun _ h => List.mem_append_right _ (List.mem_append_right _ (List.mem_append_right _ (List.mem_append_right _ (List.mem_append_right _ (List.mem_append_right _ (List.mem_append_right _ (List.mem_append_right _ (List.mem_append_right _ (List.mem_append_right _ (List.mem_append_right _ (List.mem_append_right _ (List.mem_append_right _ (List.mem_append_left _ (h))))))))))))))
theorem sub_14 : ∀ w ∈ pw_14, w ∈ pwAll := fun _ h => List.mem_append_right _ (List.mem_append_right _ (List.mem_append_right _ (List.mem_append_right _ (List.mem_append_right _ (List.mem_append_right _ (List.mem_append_right _ (List.mem_append_right _ (List.mem_append_right _ (List.mem_append_right _ (List.mem_append_right _ (List.mem_append_right _ (List.mem_append_right _ (List.mem_append_right _ (List.mem_append_left _ (h)))))))))))))))
theorem sub_15 : ∀ w ∈ pw_15, w ∈ pwAll := fun _ h => List.mem_append_right _ (List.mem_append_right _ (List.mem_append_right _ (List.mem_append_right _ (List.mem_append_right _ (List.mem_append_right _ (List.mem_append_right _ (List.mem_append_right _ (List.mem_append_right _ (List.mem_append_right _ (List.mem_append_right _ (List.mem_append_right _ (List.mem_append_right _ (List.mem_append_right _ (List.mem_append_right _ (List.mem_append_left _ (h))))))))))))))))
theorem sub_16 : ∀ w ∈ pw_16, w ∈ pwAll := fun _ h => List.mem_append_right _ (List.mem_append_right _ (List.mem_append_right _ (List.mem_append_right _ (List.mem_append_right _ (List.mem_append_right _ (List.mem_append_right _ (List.mem_append_right _ (List.mem_append_right _ (List.mem_append_right _ (List.mem_append_right _ (List.mem_append_right _ (List.mem_append_right _ (List.mem_append_right _ (List.mem_append_right _ (List.mem_append_right _ (List.mem_append_left _ (h)))))))))))))))))
theorem sub_17 : ∀ w ∈ pw_17, w ∈ pwAll := fun _ h => List.mem_append_right _ (List.mem_append_right _ (List.mem_append_right _ (List.mem_append_right _ (List.mem_append_right _ (List.mem_append_right _ (List.mem_append_right _ (List.mem_append_right _ (List.mem_append_right _ (List.mem_append_right _ (List.mem_append_right _ (List.mem_append_right _ (List.mem_append_right _ (List.mem_append_right _ (List.mem_append_right _ (List.mem_append_right _ (List.mem_append_right _ (List.mem_append_left _ (h))))))))))))))))))
theorem sub_18 : ∀ w ∈ pw_18, w ∈ pwAll := fun _ h => List.mem_append_right _ (List.mem_append_right _ (List.mem_append_right _ (List.mem_append_right _ (List.mem_append_right _ (List.mem_append_right _ (List.mem_append_right _ (List.mem_append_right _ (List.mem_append_right _ (List.mem_append_right _ (List.mem_append_right _ (List.mem_append_right _ (List.mem_append_right _ (List.mem_append_right _ (List.mem_append_right _ (List.mem_append_right _ (List.mem_append_right _ (List.mem_append_right _ (List.mem_append_left _ (h)))))))))))))))))))
theorem sub_19 : ∀ w ∈ pw_19, w ∈ pwAll := fun _ h => List.mem_append_right _ (List.mem_append_right _ (List.mem_append_right _ (List.mem_append_right _ (List.mem_append_right _ (List.mem_append_right _ (List.mem_append_right _ (List.mem_append_right _ (List.mem_append_right _ (List.mem_append_right _ (List.mem_append_right _ (List.mem_append_right _ (List.mem_append_right _ (List.mem_append_right _ (List.mem_append_right _ (List.mem_append_right _ (List.mem_append_right _ (List.mem_append_right _ (List.mem_append_right _ (List.mem_append_left _ (h))))))))))))))))))))
theorem sub_20 : ∀ w ∈ pw_20, w ∈ pwAll := fun _ h => List.mem_append_right _ (List.mem_append_right _ (List.mem_append_right _ (List.mem_append_right _ (List.mem_append_right _ (List.mem_append_right _ (List.mem_append_right _ (List.mem_append_right _ (List.mem_append_right _ (List.mem_append_right _ (List.mem_append_right _ (List.mem_append_right _ (List.mem_append_right _ (List.mem_append_right _ (List.mem_append_right _ (List.mem_append_right _ (List.mem_append_right _ (List.mem_append_right _ (List.mem_append_right _ (List.mem_append_right _ (List.mem_append_left _ (h)))))))))))))))))))))
theorem inAll_0 : ∀ w ∈ wsX00, w ∈ pwAll := fun _ h => List.mem_append_right _ (List.mem_append_right _ (List.mem_append_right _ (List.mem_append_right _ (List.mem_append_right _ (List.mem_append_right _ (List.mem_append_right _ (List.mem_append_right _ (List.mem_append_right _ (List.mem_append_right _ (List.mem_append_right _ (List.mem_append_right _ (List.mem_append_right _ (List.mem_append_right _ (List.mem_append_right _ (List.mem_append_right _ (List.mem_append_right _ (List.mem_append_right _ (List.mem_append_right _ (List.mem_append_right _ (List.mem_append_right _ (List.mem_append_left _ (h))))))))))))))))))))))
theorem inAll_1 : ∀ w ∈ wsX10, w ∈ pwAll := fun _ h => List.mem_append_right _ (List.mem_append_right _ (List.mem_append_right _ (List.mem_append_right _ (List.mem_append_right _ (List.mem_append_right _ (List.mem_append_right _ (List.mem_append_right _ (List.mem_append_right _ (List.mem_append_right _ (List.mem_append_right _ (List.mem_append_right _ (List.mem_append_right _ (List.mem_append_right _ (List.mem_append_right _ (List.mem_append_right _ (List.mem_append_right _ (List.mem_append_right _ (List.mem_append_right _ (List.mem_append_right _ (List.mem_append_right _ (List.mem_append_right _ (List.mem_append_left _ (h)))))))))))))))))))))))
theorem inAll_2 : ∀ w ∈ wsX20, w ∈ pwAll := fun _ h => List.mem_append_right _ (List.mem_append_right _ (List.mem_append_right _ (List.mem_append_right _ (List.mem_append_right _ (List.mem_append_right _ (List.mem_append_right _ (List.mem_append_right _ (List.mem_append_right _ (List.mem_append_right _ (List.mem_append_right _ (List.mem_append_right _ (List.mem_append_right _ (List.mem_append_right _ (List.mem_append_right _ (List.mem_append_right _ (List.mem_append_right _ (List.mem_append_right _ (List.mem_append_right _ (List.mem_append_right _ (List.mem_append_right _ (List.mem_append_right _ (List.mem_append_right _ (List.mem_append_left _ (h))))))))))))))))))))))))
theorem inAll_3 : ∀ w ∈ wsX30, w ∈ pwAll := fun _ h => List.mem_append_right _ (List.mem_append_right _ (List.mem_append_right _ (List.mem_append_right _ (List.mem_append_right _ (List.mem_append_right _ (List.mem_append_right _ (List.mem_append_right _ (List.mem_append_right _ (List.mem_append_right _ (List.mem_append_right _ (List.mem_append_right _ (List.mem_append_right _ (List.mem_append_right _ (List.mem_append_right _ (List.mem_append_right _ (List.mem_append_right _ (List.mem_append_right _ (List.mem_append_right _ (List.mem_append_right _ (List.mem_append_right _ (List.mem_append_right _ (List.mem_append_right _ (List.mem_append_right _ (List.mem_append_left _ (h)))))))))))))))))))))))))
theorem inAll_4 : ∀ w ∈ wsX40, w ∈ pwAll := fun _ h => List.mem_append_right _ (List.mem_append_right _ (List.mem_append_right _ (List.mem_append_right _ (List.mem_append_right _ (List.mem_append_right _ (List.mem_append_right _ (List.mem_append_right _ (List.mem_append_right _ (List.mem_append_right _ (List.mem_append_right _ (List.mem_append_right _ (List.mem_append_right _ (List.mem_append_right _ (List.mem_append_right _ (List.mem_append_right _ (List.mem_append_right _ (List.mem_append_right _ (List.mem_append_right _ (List.mem_append_right _ (List.mem_append_right _ (List.mem_append_right _ (List.mem_append_right _ (List.mem_append_right _ (List.mem_append_right _ (List.mem_append_left _ (h))))))))))))))))))))))))))
theorem inAll_5 : ∀ w ∈ wsX50, w ∈ pwAll := fun _ h => List.mem_append_right _ (List.mem_append_right _ (List.mem_append_right _ (List.mem_append_right _ (List.mem_append_right _ (List.mem_append_right _ (List.mem_append_right _ (List.mem_append_right _ (List.mem_append_right _ (List.mem_append_right _ (List.mem_append_right _ (List.mem_append_right _ (List.mem_append_right _ (List.mem_append_right _ (List.mem_append_right _ (List.mem_append_right _ (List.mem_append_right _ (List.mem_append_right _ (List.mem_append_right _ (List.mem_append_right _ (List.mem_append_right _ (List.mem_append_right _ (List.mem_append_right _ (List.mem_append_right _ (List.mem_append_right _ (List.mem_append_right _ (List.mem_append_left _ (h)))))))))))))))))))))))))))
theorem inAll_6 : ∀ w ∈ wsX60, w ∈ pwAll := fun _ h => List.mem_append_right _ (List.mem_append_right _ (List.mem_append_right _ (List.mem_append_right _ (List.mem_append_right _ (List.mem_append_right _ (List.mem_append_right _ (List.mem_append_right _ (List.mem_append_right _ (List.mem_append_right _ (List.mem_append_right _ (List.mem_append_right _ (List.mem_append_right _ (List.mem_append_right _ (List.mem_append_right _ (List.mem_append_right _ (List.mem_append_right _ (List.mem_append_right _ (List.mem_append_right _ (List.mem_append_right _ (List.mem_append_right _ (List.mem_append_right _ (List.mem_append_right _ (List.mem_append_right _ (List.mem_append_right _ (List.mem_append_right _ (List.mem_append_right _ (List.mem_append_left _ (h))))))))))))))))))))))))))))
theorem inAll_7 : ∀ w ∈ wsX70, w ∈ pwAll := fun _ h => List.mem_append_right _ (List.mem_append_right _ (List.mem_append_right _ (List.mem_append_right _ (List.mem_append_right _ (List.mem_append_right _ (List.mem_append_right _ (List.mem_append_right _ (List.mem_append_right _ (List.mem_append_right _ (List.mem_append_right _ (List.mem_append_right _ (List.mem_append_right _ (List.mem_append_right _ (List.mem_append_right _ (List.mem_append_right _ (List.mem_append_right _ (List.mem_append_right _ (List.mem_append_right _ (List.mem_append_right _ (List.mem_append_right _ (List.mem_append_right _ (List.mem_append_right _ (List.mem_append_right _ (List.mem_append_right _ (List.mem_append_right _ (List.mem_append_right _ (List.mem_append_right _ (h))))))))))))))))))))))))))))
theorem k_0 : Cond.methodLink RX0 3 objectInit ∈ pwAll := sub_0 _ (List.mem_of_getElem? (i := 0) rfl)
theorem k_1 : Cond.instanceMethod objectInit ∈ pwAll := sub_0 _ (List.mem_of_getElem? (i := 1) rfl)
theorem k_2 : Cond.code objectInit ⟨#[0xb1]⟩ 1 none ∈ pwAll := sub_0 _ (List.mem_of_getElem? (i := 2) rfl)
theorem k_3 : Cond.methodLink RX0 9 Lib.Math.max.name ∈ pwAll := sub_0 _ (List.mem_of_getElem? (i := 3) rfl)
theorem k_4 : Cond.static Lib.Math.max.name ∈ pwAll := sub_0 _ (List.mem_of_getElem? (i := 4) rfl)
theorem k_5 : Cond.initialized "java/lang/Math" ∈ pwAll := sub_0 _ (List.mem_of_getElem? (i := 5) rfl)
theorem k_6 : Cond.code Lib.Math.max.name Lib.Math.max.code 2 (some .int) ∈ pwAll := sub_0 _ (List.mem_of_getElem? (i := 6) rfl)
theorem k_7 : Cond.arrayClass .byte ∈ pwAll := sub_0 _ (List.mem_of_getElem? (i := 7) rfl)
theorem k_8 : Cond.fieldLink RX0 15 "LoopEnvelopes$Bytes" "cells" "[B" ∈ pwAll := sub_0 _ (List.mem_of_getElem? (i := 8) rfl)
theorem k_9 : Cond.fieldLink RX0 21 "LoopEnvelopes$Bytes" "used" "I" ∈ pwAll := sub_0 _ (List.mem_of_getElem? (i := 9) rfl)
theorem k_10 : Cond.methodLink RX4 3 objectInit ∈ pwAll := sub_0 _ (List.mem_of_getElem? (i := 10) rfl)
theorem k_11 : Cond.fieldLink RX4 9 "LoopEnvelopes$Table" "rows" "I" ∈ pwAll := sub_0 _ (List.mem_of_getElem? (i := 11) rfl)
theorem k_12 : Cond.fieldLink RX4 15 "LoopEnvelopes$Table" "columns" "I" ∈ pwAll := sub_0 _ (List.mem_of_getElem? (i := 12) rfl)
theorem k_13 : Cond.methodLink RX4 18 Lib.Math.max.name ∈ pwAll := sub_0 _ (List.mem_of_getElem? (i := 13) rfl)
theorem k_14 : Cond.arrayClass .int ∈ pwAll := sub_0 _ (List.mem_of_getElem? (i := 14) rfl)
theorem k_15 : Cond.fieldLink RX4 24 "LoopEnvelopes$Table" "cells" "[I" ∈ pwAll := sub_0 _ (List.mem_of_getElem? (i := 15) rfl)
theorem k_16 : Cond.methodLink RX3 3 objectInit ∈ pwAll := sub_1 _ (List.mem_of_getElem? (i := 0) rfl)
theorem k_17 : Cond.classLink RX3 9 RX0 ∈ pwAll := sub_1 _ (List.mem_of_getElem? (i := 1) rfl)
theorem k_18 : Cond.instantiable RX0 2 ∈ pwAll := sub_1 _ (List.mem_of_getElem? (i := 2) rfl)
theorem k_19 : Cond.initialized RX0 ∈ pwAll := sub_1 _ (List.mem_of_getElem? (i := 3) rfl)
theorem k_20 : Cond.code yX0_init cX0_init 2 none ∈ pwAll := sub_1 _ (List.mem_of_getElem? (i := 4) rfl)
theorem k_21 : Cond.methodLink RX3 11 yX0_init ∈ pwAll := sub_1 _ (List.mem_of_getElem? (i := 5) rfl)
theorem k_22 : Cond.instanceMethod yX0_init ∈ pwAll := sub_1 _ (List.mem_of_getElem? (i := 6) rfl)
theorem k_23 : Cond.fieldLink RX3 14 "LoopEnvelopes$Segments" "bytes" "LLoopEnvelopes$Bytes;" ∈ pwAll := sub_1 _ (List.mem_of_getElem? (i := 7) rfl)
theorem k_24 : Cond.classLink RX3 20 RX4 ∈ pwAll := sub_1 _ (List.mem_of_getElem? (i := 8) rfl)
theorem k_25 : Cond.instantiable RX4 3 ∈ pwAll := sub_1 _ (List.mem_of_getElem? (i := 9) rfl)
theorem k_26 : Cond.initialized RX4 ∈ pwAll := sub_1 _ (List.mem_of_getElem? (i := 10) rfl)
theorem k_27 : Cond.code yX4_init cX4_init 3 none ∈ pwAll := sub_1 _ (List.mem_of_getElem? (i := 11) rfl)
theorem k_28 : Cond.methodLink RX3 22 yX4_init ∈ pwAll := sub_1 _ (List.mem_of_getElem? (i := 12) rfl)
theorem k_29 : Cond.instanceMethod yX4_init ∈ pwAll := sub_1 _ (List.mem_of_getElem? (i := 13) rfl)
theorem k_30 : Cond.fieldLink RX3 25 "LoopEnvelopes$Segments" "begins" "LLoopEnvelopes$Table;" ∈ pwAll := sub_1 _ (List.mem_of_getElem? (i := 14) rfl)
theorem k_31 : Cond.fieldLink RX3 29 "LoopEnvelopes$Segments" "names" "LLoopEnvelopes$Table;" ∈ pwAll := sub_1 _ (List.mem_of_getElem? (i := 15) rfl)
theorem k_32 : Cond.fieldLink RX3 32 "LoopEnvelopes$Segments" "elements" "LLoopEnvelopes$Table;" ∈ pwAll := sub_2 _ (List.mem_of_getElem? (i := 0) rfl)
theorem k_33 : Cond.fieldLink RX3 35 "LoopEnvelopes$Segments" "held" "I" ∈ pwAll := sub_2 _ (List.mem_of_getElem? (i := 1) rfl)
theorem k_34 : Cond.methodLink RX1 3 objectInit ∈ pwAll := sub_2 _ (List.mem_of_getElem? (i := 2) rfl)
theorem k_35 : Cond.fieldLink RX1 9 "LoopEnvelopes$Frames" "segments" "LLoopEnvelopes$Segments;" ∈ pwAll := sub_2 _ (List.mem_of_getElem? (i := 3) rfl)
theorem k_36 : Cond.classLink RX1 15 RX4 ∈ pwAll := sub_2 _ (List.mem_of_getElem? (i := 4) rfl)
theorem k_37 : Cond.methodLink RX1 17 yX4_init ∈ pwAll := sub_2 _ (List.mem_of_getElem? (i := 5) rfl)
theorem k_38 : Cond.fieldLink RX1 20 "LoopEnvelopes$Frames" "groups" "LLoopEnvelopes$Table;" ∈ pwAll := sub_2 _ (List.mem_of_getElem? (i := 6) rfl)
theorem k_39 : Cond.fieldLink RX1 24 "LoopEnvelopes$Frames" "sets" "LLoopEnvelopes$Table;" ∈ pwAll := sub_2 _ (List.mem_of_getElem? (i := 7) rfl)
theorem k_40 : Cond.fieldLink RX1 27 "LoopEnvelopes$Frames" "groupsHeld" "I" ∈ pwAll := sub_2 _ (List.mem_of_getElem? (i := 8) rfl)
theorem k_41 : Cond.fieldLink RX1 31 "LoopEnvelopes$Frames" "setsHeld" "I" ∈ pwAll := sub_2 _ (List.mem_of_getElem? (i := 9) rfl)
theorem k_42 : Cond.fieldLink RX1 34 "LoopEnvelopes$Frames" "stage" "I" ∈ pwAll := sub_2 _ (List.mem_of_getElem? (i := 10) rfl)
theorem k_43 : Cond.methodLink RX2 3 objectInit ∈ pwAll := sub_2 _ (List.mem_of_getElem? (i := 11) rfl)
theorem k_44 : Cond.fieldLink RX2 9 "LoopEnvelopes$Judge" "segments" "LLoopEnvelopes$Segments;" ∈ pwAll := sub_2 _ (List.mem_of_getElem? (i := 12) rfl)
theorem k_45 : Cond.fieldLink RX2 15 "LoopEnvelopes$Judge" "frames" "LLoopEnvelopes$Frames;" ∈ pwAll := sub_2 _ (List.mem_of_getElem? (i := 13) rfl)
theorem k_46 : Cond.classLink RX2 19 RX4 ∈ pwAll := sub_2 _ (List.mem_of_getElem? (i := 14) rfl)
theorem k_47 : Cond.methodLink RX2 21 yX4_init ∈ pwAll := sub_2 _ (List.mem_of_getElem? (i := 15) rfl)
theorem k_48 : Cond.fieldLink RX2 24 "LoopEnvelopes$Judge" "marks" "LLoopEnvelopes$Table;" ∈ pwAll := sub_3 _ (List.mem_of_getElem? (i := 0) rfl)
theorem k_49 : Cond.fieldLink RX2 28 "LoopEnvelopes$Judge" "first" "I" ∈ pwAll := sub_3 _ (List.mem_of_getElem? (i := 1) rfl)
theorem k_50 : Cond.fieldLink RX2 32 "LoopEnvelopes$Judge" "end" "I" ∈ pwAll := sub_3 _ (List.mem_of_getElem? (i := 2) rfl)
theorem k_51 : Cond.methodLink RX5 3 objectInit ∈ pwAll := sub_3 _ (List.mem_of_getElem? (i := 3) rfl)
theorem k_52 : Cond.fieldLink RX5 9 "LoopEnvelopes$Writer" "segments" "LLoopEnvelopes$Segments;" ∈ pwAll := sub_3 _ (List.mem_of_getElem? (i := 4) rfl)
theorem k_53 : Cond.classLink RX5 15 RX0 ∈ pwAll := sub_3 _ (List.mem_of_getElem? (i := 5) rfl)
theorem k_54 : Cond.methodLink RX5 17 yX0_init ∈ pwAll := sub_3 _ (List.mem_of_getElem? (i := 6) rfl)
theorem k_55 : Cond.fieldLink RX5 20 "LoopEnvelopes$Writer" "bytes" "LLoopEnvelopes$Bytes;" ∈ pwAll := sub_3 _ (List.mem_of_getElem? (i := 7) rfl)
theorem k_56 : Cond.fieldLink RX5 24 "LoopEnvelopes$Writer" "over" "Z" ∈ pwAll := sub_3 _ (List.mem_of_getElem? (i := 8) rfl)
theorem k_57 : Cond.methodLink RX6 3 objectInit ∈ pwAll := sub_3 _ (List.mem_of_getElem? (i := 9) rfl)
theorem k_58 : Cond.classLink RX6 9 RX0 ∈ pwAll := sub_3 _ (List.mem_of_getElem? (i := 10) rfl)
theorem k_59 : Cond.methodLink RX6 11 yX0_init ∈ pwAll := sub_3 _ (List.mem_of_getElem? (i := 11) rfl)
theorem k_60 : Cond.fieldLink RX6 14 "LoopEnvelopes" "text" "LLoopEnvelopes$Bytes;" ∈ pwAll := sub_3 _ (List.mem_of_getElem? (i := 12) rfl)
theorem k_61 : Cond.classLink RX6 18 RX3 ∈ pwAll := sub_3 _ (List.mem_of_getElem? (i := 13) rfl)
theorem k_62 : Cond.instantiable RX3 5 ∈ pwAll := sub_3 _ (List.mem_of_getElem? (i := 14) rfl)
theorem k_63 : Cond.initialized RX3 ∈ pwAll := sub_3 _ (List.mem_of_getElem? (i := 15) rfl)
theorem k_64 : Cond.code yX3_init cX3_init 1 none ∈ pwAll := sub_4 _ (List.mem_of_getElem? (i := 0) rfl)
theorem k_65 : Cond.methodLink RX6 20 yX3_init ∈ pwAll := sub_4 _ (List.mem_of_getElem? (i := 1) rfl)
theorem k_66 : Cond.instanceMethod yX3_init ∈ pwAll := sub_4 _ (List.mem_of_getElem? (i := 2) rfl)
theorem k_67 : Cond.fieldLink RX6 21 "LoopEnvelopes" "segments" "LLoopEnvelopes$Segments;" ∈ pwAll := sub_4 _ (List.mem_of_getElem? (i := 3) rfl)
theorem k_68 : Cond.classLink RX6 25 RX1 ∈ pwAll := sub_4 _ (List.mem_of_getElem? (i := 4) rfl)
theorem k_69 : Cond.instantiable RX1 6 ∈ pwAll := sub_4 _ (List.mem_of_getElem? (i := 5) rfl)
theorem k_70 : Cond.initialized RX1 ∈ pwAll := sub_4 _ (List.mem_of_getElem? (i := 6) rfl)
theorem k_71 : Cond.code yX1_init cX1_init 2 none ∈ pwAll := sub_4 _ (List.mem_of_getElem? (i := 7) rfl)
theorem k_72 : Cond.methodLink RX6 27 yX1_init ∈ pwAll := sub_4 _ (List.mem_of_getElem? (i := 8) rfl)
theorem k_73 : Cond.instanceMethod yX1_init ∈ pwAll := sub_4 _ (List.mem_of_getElem? (i := 9) rfl)
theorem k_74 : Cond.fieldLink RX6 30 "LoopEnvelopes" "frames" "LLoopEnvelopes$Frames;" ∈ pwAll := sub_4 _ (List.mem_of_getElem? (i := 10) rfl)
theorem k_75 : Cond.classLink RX6 34 RX2 ∈ pwAll := sub_4 _ (List.mem_of_getElem? (i := 11) rfl)
theorem k_76 : Cond.instantiable RX2 5 ∈ pwAll := sub_4 _ (List.mem_of_getElem? (i := 12) rfl)
theorem k_77 : Cond.initialized RX2 ∈ pwAll := sub_4 _ (List.mem_of_getElem? (i := 13) rfl)
theorem k_78 : Cond.code yX2_init cX2_init 3 none ∈ pwAll := sub_4 _ (List.mem_of_getElem? (i := 14) rfl)
theorem k_79 : Cond.methodLink RX6 36 yX2_init ∈ pwAll := sub_4 _ (List.mem_of_getElem? (i := 15) rfl)
theorem k_80 : Cond.instanceMethod yX2_init ∈ pwAll := sub_5 _ (List.mem_of_getElem? (i := 0) rfl)
theorem k_81 : Cond.fieldLink RX6 39 "LoopEnvelopes" "judge" "LLoopEnvelopes$Judge;" ∈ pwAll := sub_5 _ (List.mem_of_getElem? (i := 1) rfl)
theorem k_82 : Cond.classLink RX6 43 RX5 ∈ pwAll := sub_5 _ (List.mem_of_getElem? (i := 2) rfl)
theorem k_83 : Cond.instantiable RX5 3 ∈ pwAll := sub_5 _ (List.mem_of_getElem? (i := 3) rfl)
theorem k_84 : Cond.initialized RX5 ∈ pwAll := sub_5 _ (List.mem_of_getElem? (i := 4) rfl)
theorem k_85 : Cond.code yX5_init cX5_init 2 none ∈ pwAll := sub_5 _ (List.mem_of_getElem? (i := 5) rfl)
theorem k_86 : Cond.methodLink RX6 45 yX5_init ∈ pwAll := sub_5 _ (List.mem_of_getElem? (i := 6) rfl)
theorem k_87 : Cond.instanceMethod yX5_init ∈ pwAll := sub_5 _ (List.mem_of_getElem? (i := 7) rfl)
theorem k_88 : Cond.fieldLink RX6 46 "LoopEnvelopes" "writer" "LLoopEnvelopes$Writer;" ∈ pwAll := sub_5 _ (List.mem_of_getElem? (i := 8) rfl)
theorem k_89 : Cond.fieldLink RX6 50 "LoopEnvelopes" "place" "I" ∈ pwAll := sub_5 _ (List.mem_of_getElem? (i := 9) rfl)
theorem k_90 : Cond.fieldLink RX6 54 "LoopEnvelopes" "taken" "Z" ∈ pwAll := sub_5 _ (List.mem_of_getElem? (i := 10) rfl)
theorem k_91 : Cond.methodLink RX0 25 Lib.Math.min.name ∈ pwAll := sub_5 _ (List.mem_of_getElem? (i := 11) rfl)
theorem k_92 : Cond.static Lib.Math.min.name ∈ pwAll := sub_5 _ (List.mem_of_getElem? (i := 12) rfl)
theorem k_93 : Cond.code Lib.Math.min.name Lib.Math.min.code 2 (some .int) ∈ pwAll := sub_5 _ (List.mem_of_getElem? (i := 13) rfl)
theorem k_94 : Cond.methodLink RX3 39 yX0_become ∈ pwAll := sub_5 _ (List.mem_of_getElem? (i := 14) rfl)
theorem k_95 : Cond.instanceMethod yX0_become ∈ pwAll := sub_5 _ (List.mem_of_getElem? (i := 15) rfl)
theorem k_96 : Cond.selects RX0 yX0_become yX0_become ∈ pwAll := sub_6 _ (List.mem_of_getElem? (i := 0) rfl)
theorem k_97 : Cond.code yX0_become cX0_become 3 none ∈ pwAll := sub_6 _ (List.mem_of_getElem? (i := 1) rfl)
theorem k_98 : Cond.methodLink RX3 47 yX0_at ∈ pwAll := sub_6 _ (List.mem_of_getElem? (i := 2) rfl)
theorem k_99 : Cond.instanceMethod yX0_at ∈ pwAll := sub_6 _ (List.mem_of_getElem? (i := 3) rfl)
theorem k_100 : Cond.selects RX0 yX0_at yX0_at ∈ pwAll := sub_6 _ (List.mem_of_getElem? (i := 4) rfl)
theorem k_101 : Cond.code yX0_at cX0_at 2 (some .int) ∈ pwAll := sub_6 _ (List.mem_of_getElem? (i := 5) rfl)
theorem k_102 : Cond.methodLink RX3 55 yX3_splitter ∈ pwAll := sub_6 _ (List.mem_of_getElem? (i := 6) rfl)
theorem k_103 : Cond.instanceMethod yX3_splitter ∈ pwAll := sub_6 _ (List.mem_of_getElem? (i := 7) rfl)
theorem k_104 : Cond.selects RX3 yX3_splitter yX3_splitter ∈ pwAll := sub_6 _ (List.mem_of_getElem? (i := 8) rfl)
theorem k_105 : Cond.code yX3_splitter cX3_splitter 1 (some .int) ∈ pwAll := sub_6 _ (List.mem_of_getElem? (i := 9) rfl)
theorem k_106 : Cond.methodLink RX3 58 yX3_closer ∈ pwAll := sub_6 _ (List.mem_of_getElem? (i := 10) rfl)
theorem k_107 : Cond.instanceMethod yX3_closer ∈ pwAll := sub_6 _ (List.mem_of_getElem? (i := 11) rfl)
theorem k_108 : Cond.selects RX3 yX3_closer yX3_closer ∈ pwAll := sub_6 _ (List.mem_of_getElem? (i := 12) rfl)
theorem k_109 : Cond.code yX3_closer cX3_closer 1 (some .int) ∈ pwAll := sub_6 _ (List.mem_of_getElem? (i := 13) rfl)
theorem k_110 : Cond.methodLink RX3 43 yX0_length ∈ pwAll := sub_6 _ (List.mem_of_getElem? (i := 14) rfl)
theorem k_111 : Cond.instanceMethod yX0_length ∈ pwAll := sub_6 _ (List.mem_of_getElem? (i := 15) rfl)
theorem k_112 : Cond.selects RX0 yX0_length yX0_length ∈ pwAll := sub_7 _ (List.mem_of_getElem? (i := 0) rfl)
theorem k_113 : Cond.code yX0_length cX0_length 1 (some .int) ∈ pwAll := sub_7 _ (List.mem_of_getElem? (i := 1) rfl)
theorem k_114 : Cond.methodLink RX5 32 yX0_at ∈ pwAll := sub_7 _ (List.mem_of_getElem? (i := 2) rfl)
theorem k_115 : Cond.methodLink RX5 28 yX0_length ∈ pwAll := sub_7 _ (List.mem_of_getElem? (i := 3) rfl)
theorem k_116 : Cond.methodLink RX6 58 yX0_length ∈ pwAll := sub_7 _ (List.mem_of_getElem? (i := 4) rfl)
theorem k_117 : Cond.methodLink RX6 76 yX0_shorten ∈ pwAll := sub_7 _ (List.mem_of_getElem? (i := 5) rfl)
theorem k_118 : Cond.instanceMethod yX0_shorten ∈ pwAll := sub_7 _ (List.mem_of_getElem? (i := 6) rfl)
theorem k_119 : Cond.selects RX0 yX0_shorten yX0_shorten ∈ pwAll := sub_7 _ (List.mem_of_getElem? (i := 7) rfl)
theorem k_120 : Cond.code yX0_shorten cX0_shorten 2 none ∈ pwAll := sub_7 _ (List.mem_of_getElem? (i := 8) rfl)
theorem k_121 : Cond.methodLink RX6 103 yX5_length ∈ pwAll := sub_7 _ (List.mem_of_getElem? (i := 9) rfl)
theorem k_122 : Cond.instanceMethod yX5_length ∈ pwAll := sub_7 _ (List.mem_of_getElem? (i := 10) rfl)
theorem k_123 : Cond.selects RX5 yX5_length yX5_length ∈ pwAll := sub_7 _ (List.mem_of_getElem? (i := 11) rfl)
theorem k_124 : Cond.code yX5_length cX5_length 1 (some .int) ∈ pwAll := sub_7 _ (List.mem_of_getElem? (i := 12) rfl)
theorem k_125 : Cond.methodLink RX6 169 yX5_at ∈ pwAll := sub_7 _ (List.mem_of_getElem? (i := 13) rfl)
theorem k_126 : Cond.instanceMethod yX5_at ∈ pwAll := sub_7 _ (List.mem_of_getElem? (i := 14) rfl)
theorem k_127 : Cond.selects RX5 yX5_at yX5_at ∈ pwAll := sub_7 _ (List.mem_of_getElem? (i := 15) rfl)
theorem k_128 : Cond.code yX5_at cX5_at 2 (some .int) ∈ pwAll := sub_8 _ (List.mem_of_getElem? (i := 0) rfl)
theorem k_129 : Cond.methodLink RX6 79 yX3_take ∈ pwAll := sub_8 _ (List.mem_of_getElem? (i := 1) rfl)
theorem k_130 : Cond.instanceMethod yX3_take ∈ pwAll := sub_8 _ (List.mem_of_getElem? (i := 2) rfl)
theorem k_131 : Cond.selects RX3 yX3_take yX3_take ∈ pwAll := sub_8 _ (List.mem_of_getElem? (i := 3) rfl)
theorem k_132 : Cond.code yX3_take cX3_take 2 none ∈ pwAll := sub_8 _ (List.mem_of_getElem? (i := 4) rfl)
theorem k_133 : Cond.methodLink RX6 83 yX1_clear ∈ pwAll := sub_8 _ (List.mem_of_getElem? (i := 5) rfl)
theorem k_134 : Cond.instanceMethod yX1_clear ∈ pwAll := sub_8 _ (List.mem_of_getElem? (i := 6) rfl)
theorem k_135 : Cond.selects RX1 yX1_clear yX1_clear ∈ pwAll := sub_8 _ (List.mem_of_getElem? (i := 7) rfl)
theorem k_136 : Cond.code yX1_clear cX1_clear 1 none ∈ pwAll := sub_8 _ (List.mem_of_getElem? (i := 8) rfl)
theorem k_137 : Cond.methodLink RX6 86 yX3_opens ∈ pwAll := sub_8 _ (List.mem_of_getElem? (i := 9) rfl)
theorem k_138 : Cond.instanceMethod yX3_opens ∈ pwAll := sub_8 _ (List.mem_of_getElem? (i := 10) rfl)
theorem k_139 : Cond.selects RX3 yX3_opens yX3_opens ∈ pwAll := sub_8 _ (List.mem_of_getElem? (i := 11) rfl)
theorem k_140 : Cond.code yX3_opens cX3_opens 4 (some .boolean) ∈ pwAll := sub_8 _ (List.mem_of_getElem? (i := 12) rfl)
theorem k_141 : Cond.methodLink RX6 93 yX6_tell ∈ pwAll := sub_8 _ (List.mem_of_getElem? (i := 13) rfl)
theorem k_142 : Cond.instanceMethod yX6_tell ∈ pwAll := sub_8 _ (List.mem_of_getElem? (i := 14) rfl)
theorem k_143 : Cond.selects RX6 yX6_tell yX6_tell ∈ pwAll := sub_8 _ (List.mem_of_getElem? (i := 15) rfl)
theorem k_144 : Cond.initialized RX6 ∈ pwAll := sub_9 _ (List.mem_of_getElem? (i := 0) rfl)
theorem k_145 : Cond.code yX6_tell cX6_tell 3 (some .int) ∈ pwAll := sub_9 _ (List.mem_of_getElem? (i := 1) rfl)
theorem k_146 : Cond.constantLong RX6 62 (255) ∈ pwAll := sub_9 _ (List.mem_of_getElem? (i := 2) rfl)
theorem k_147 : Cond.methodLink RX6 64 yX0_append ∈ pwAll := sub_9 _ (List.mem_of_getElem? (i := 3) rfl)
theorem k_148 : Cond.instanceMethod yX0_append ∈ pwAll := sub_9 _ (List.mem_of_getElem? (i := 4) rfl)
theorem k_149 : Cond.selects RX0 yX0_append yX0_append ∈ pwAll := sub_9 _ (List.mem_of_getElem? (i := 5) rfl)
theorem k_150 : Cond.code yX0_append cX0_append 2 (some .boolean) ∈ pwAll := sub_9 _ (List.mem_of_getElem? (i := 6) rfl)
theorem k_151 : Cond.methodLink RX7 1 objectInit ∈ pwAll := sub_9 _ (List.mem_of_getElem? (i := 7) rfl)
theorem k_152 : Cond.fieldLink RX7 7 "LoopEnvelopesModel" "text" "[I" ∈ pwAll := sub_9 _ (List.mem_of_getElem? (i := 8) rfl)
theorem k_153 : Cond.fieldLink RX7 13 "LoopEnvelopesModel" "where" "I" ∈ pwAll := sub_9 _ (List.mem_of_getElem? (i := 9) rfl)
theorem k_154 : Cond.fieldLink RX7 17 "LoopEnvelopesModel" "was" "[I" ∈ pwAll := sub_9 _ (List.mem_of_getElem? (i := 10) rfl)
theorem k_155 : Cond.fieldLink RX7 20 "LoopEnvelopesModel" "nameOf" "[I" ∈ pwAll := sub_9 _ (List.mem_of_getElem? (i := 11) rfl)
theorem k_156 : Cond.fieldLink RX7 23 "LoopEnvelopesModel" "elements" "[I" ∈ pwAll := sub_9 _ (List.mem_of_getElem? (i := 12) rfl)
theorem k_157 : Cond.fieldLink RX7 26 "LoopEnvelopesModel" "from" "[I" ∈ pwAll := sub_9 _ (List.mem_of_getElem? (i := 13) rfl)
theorem k_158 : Cond.fieldLink RX7 29 "LoopEnvelopesModel" "long0" "[I" ∈ pwAll := sub_9 _ (List.mem_of_getElem? (i := 14) rfl)
theorem k_159 : Cond.arrayClass .boolean ∈ pwAll := sub_9 _ (List.mem_of_getElem? (i := 15) rfl)
theorem k_160 : Cond.fieldLink RX7 32 "LoopEnvelopesModel" "isIll" "[Z" ∈ pwAll := sub_10 _ (List.mem_of_getElem? (i := 0) rfl)
theorem k_161 : Cond.fieldLink RX7 36 "LoopEnvelopesModel" "fault" "[I" ∈ pwAll := sub_10 _ (List.mem_of_getElem? (i := 1) rfl)
theorem k_162 : Cond.fieldLink RX7 39 "LoopEnvelopesModel" "depth" "[I" ∈ pwAll := sub_10 _ (List.mem_of_getElem? (i := 2) rfl)
theorem k_163 : Cond.fieldLink RX7 42 "LoopEnvelopesModel" "groupSegment" "[I" ∈ pwAll := sub_10 _ (List.mem_of_getElem? (i := 3) rfl)
theorem k_164 : Cond.fieldLink RX7 45 "LoopEnvelopesModel" "groupFirst" "[I" ∈ pwAll := sub_10 _ (List.mem_of_getElem? (i := 4) rfl)
theorem k_165 : Cond.fieldLink RX7 48 "LoopEnvelopesModel" "groupSets" "[I" ∈ pwAll := sub_10 _ (List.mem_of_getElem? (i := 5) rfl)
theorem k_166 : Cond.fieldLink RX7 51 "LoopEnvelopesModel" "setGroup" "[I" ∈ pwAll := sub_10 _ (List.mem_of_getElem? (i := 6) rfl)
theorem k_167 : Cond.fieldLink RX7 54 "LoopEnvelopesModel" "setFirst" "[I" ∈ pwAll := sub_10 _ (List.mem_of_getElem? (i := 7) rfl)
theorem k_168 : Cond.fieldLink RX7 57 "LoopEnvelopesModel" "setMany" "[I" ∈ pwAll := sub_10 _ (List.mem_of_getElem? (i := 8) rfl)
theorem k_169 : Cond.fieldLink RX7 60 "LoopEnvelopesModel" "answer" "[I" ∈ pwAll := sub_10 _ (List.mem_of_getElem? (i := 9) rfl)
theorem k_170 : Cond.fieldLink RX7 119 "LoopEnvelopesModel" "isTaken" "Z" ∈ pwAll := sub_10 _ (List.mem_of_getElem? (i := 10) rfl)
theorem k_171 : Cond.fieldLink RX7 67 "LoopEnvelopesModel" "size" "I" ∈ pwAll := sub_10 _ (List.mem_of_getElem? (i := 11) rfl)
theorem k_172 : Cond.methodLink RX7 63 yX7_in ∈ pwAll := sub_10 _ (List.mem_of_getElem? (i := 12) rfl)
theorem k_173 : Cond.static yX7_in ∈ pwAll := sub_10 _ (List.mem_of_getElem? (i := 13) rfl)
theorem k_174 : Cond.initialized RX7 ∈ pwAll := sub_10 _ (List.mem_of_getElem? (i := 14) rfl)
theorem k_175 : Cond.code yX7_in cX7_in 3 (some .boolean) ∈ pwAll := sub_10 _ (List.mem_of_getElem? (i := 15) rfl)
theorem k_176 : Cond.fieldLink RX7 223 "LoopEnvelopesModel" "answered" "I" ∈ pwAll := sub_11 _ (List.mem_of_getElem? (i := 0) rfl)
theorem k_177 : Cond.methodLink RX7 147 yX7_isOpening ∈ pwAll := sub_11 _ (List.mem_of_getElem? (i := 1) rfl)
theorem k_178 : Cond.instanceMethod yX7_isOpening ∈ pwAll := sub_11 _ (List.mem_of_getElem? (i := 2) rfl)
theorem k_179 : Cond.selects RX7 yX7_isOpening yX7_isOpening ∈ pwAll := sub_11 _ (List.mem_of_getElem? (i := 3) rfl)
theorem k_180 : Cond.code yX7_isOpening cX7_isOpening 3 (some .boolean) ∈ pwAll := sub_11 _ (List.mem_of_getElem? (i := 4) rfl)
theorem k_181 : Cond.methodLink RX7 151 yX7_found ∈ pwAll := sub_11 _ (List.mem_of_getElem? (i := 5) rfl)
theorem k_182 : Cond.instanceMethod yX7_found ∈ pwAll := sub_11 _ (List.mem_of_getElem? (i := 6) rfl)
theorem k_183 : Cond.selects RX7 yX7_found yX7_found ∈ pwAll := sub_11 _ (List.mem_of_getElem? (i := 7) rfl)
theorem k_184 : Cond.code yX7_found cX7_found 3 (some .int) ∈ pwAll := sub_11 _ (List.mem_of_getElem? (i := 8) rfl)
theorem k_185 : Cond.constantLong RX7 70 (255) ∈ pwAll := sub_11 _ (List.mem_of_getElem? (i := 9) rfl)
theorem k_186 : Cond.classLink RL 7 RX6 ∈ pwAll := sub_11 _ (List.mem_of_getElem? (i := 10) rfl)
theorem k_187 : Cond.instantiable RX6 7 ∈ pwAll := sub_11 _ (List.mem_of_getElem? (i := 11) rfl)
theorem k_188 : Cond.code yX6_init cX6_init 1 none ∈ pwAll := sub_11 _ (List.mem_of_getElem? (i := 12) rfl)
theorem k_189 : Cond.methodLink RL 9 yX6_init ∈ pwAll := sub_11 _ (List.mem_of_getElem? (i := 13) rfl)
theorem k_190 : Cond.instanceMethod yX6_init ∈ pwAll := sub_11 _ (List.mem_of_getElem? (i := 14) rfl)
theorem k_191 : Cond.classLink RL 10 RX7 ∈ pwAll := sub_11 _ (List.mem_of_getElem? (i := 15) rfl)
theorem k_192 : Cond.instantiable RX7 29 ∈ pwAll := sub_12 _ (List.mem_of_getElem? (i := 0) rfl)
theorem k_193 : Cond.code yX7_init cX7_init 1 none ∈ pwAll := sub_12 _ (List.mem_of_getElem? (i := 1) rfl)
theorem k_194 : Cond.methodLink RL 12 yX7_init ∈ pwAll := sub_12 _ (List.mem_of_getElem? (i := 2) rfl)
theorem k_195 : Cond.instanceMethod yX7_init ∈ pwAll := sub_12 _ (List.mem_of_getElem? (i := 3) rfl)
theorem k_196 : Cond.constantLong RL 13 (4294967295) ∈ pwAll := sub_12 _ (List.mem_of_getElem? (i := 4) rfl)
theorem k_197 : Cond.methodLink RL 15 yX6_feed ∈ pwAll := sub_12 _ (List.mem_of_getElem? (i := 5) rfl)
theorem k_198 : Cond.instanceMethod yX6_feed ∈ pwAll := sub_12 _ (List.mem_of_getElem? (i := 6) rfl)
theorem k_199 : Cond.selects RX6 yX6_feed yX6_feed ∈ pwAll := sub_12 _ (List.mem_of_getElem? (i := 7) rfl)
theorem k_200 : Cond.code yX6_feed cX6_feed 5 (some .int) ∈ pwAll := sub_12 _ (List.mem_of_getElem? (i := 8) rfl)
theorem k_201 : Cond.methodLink RL 19 yX7_feed ∈ pwAll := sub_12 _ (List.mem_of_getElem? (i := 9) rfl)
theorem k_202 : Cond.instanceMethod yX7_feed ∈ pwAll := sub_12 _ (List.mem_of_getElem? (i := 10) rfl)
theorem k_203 : Cond.selects RX7 yX7_feed yX7_feed ∈ pwAll := sub_12 _ (List.mem_of_getElem? (i := 11) rfl)
theorem k_204 : Cond.code yX7_feed cX7_feed 5 (some .int) ∈ pwAll := sub_12 _ (List.mem_of_getElem? (i := 12) rfl)
theorem k_205 : Cond.methodLink RL 20 yX6_set ∈ pwAll := sub_12 _ (List.mem_of_getElem? (i := 13) rfl)
theorem k_206 : Cond.instanceMethod yX6_set ∈ pwAll := sub_12 _ (List.mem_of_getElem? (i := 14) rfl)
theorem k_207 : Cond.selects RX6 yX6_set yX6_set ∈ pwAll := sub_12 _ (List.mem_of_getElem? (i := 15) rfl)
theorem k_208 : Cond.code yX6_set cX6_set 4 (some .int) ∈ pwAll := sub_13 _ (List.mem_of_getElem? (i := 0) rfl)
theorem k_209 : Cond.methodLink RL 24 yX7_set ∈ pwAll := sub_13 _ (List.mem_of_getElem? (i := 1) rfl)
theorem k_210 : Cond.instanceMethod yX7_set ∈ pwAll := sub_13 _ (List.mem_of_getElem? (i := 2) rfl)
theorem k_211 : Cond.selects RX7 yX7_set yX7_set ∈ pwAll := sub_13 _ (List.mem_of_getElem? (i := 3) rfl)
theorem k_212 : Cond.code yX7_set cX7_set 4 (some .int) ∈ pwAll := sub_13 _ (List.mem_of_getElem? (i := 4) rfl)
theorem k_213 : Cond.methodLink RL 25 yX6_cut ∈ pwAll := sub_13 _ (List.mem_of_getElem? (i := 5) rfl)
theorem k_214 : Cond.instanceMethod yX6_cut ∈ pwAll := sub_13 _ (List.mem_of_getElem? (i := 6) rfl)
theorem k_215 : Cond.selects RX6 yX6_cut yX6_cut ∈ pwAll := sub_13 _ (List.mem_of_getElem? (i := 7) rfl)
theorem k_216 : Cond.code yX6_cut cX6_cut 3 (some .int) ∈ pwAll := sub_13 _ (List.mem_of_getElem? (i := 8) rfl)
theorem k_217 : Cond.methodLink RL 29 yX7_cut ∈ pwAll := sub_13 _ (List.mem_of_getElem? (i := 9) rfl)
theorem k_218 : Cond.instanceMethod yX7_cut ∈ pwAll := sub_13 _ (List.mem_of_getElem? (i := 10) rfl)
theorem k_219 : Cond.selects RX7 yX7_cut yX7_cut ∈ pwAll := sub_13 _ (List.mem_of_getElem? (i := 11) rfl)
theorem k_220 : Cond.code yX7_cut cX7_cut 3 (some .int) ∈ pwAll := sub_13 _ (List.mem_of_getElem? (i := 12) rfl)
theorem k_221 : Cond.methodLink RL 30 yX6_read ∈ pwAll := sub_13 _ (List.mem_of_getElem? (i := 13) rfl)
theorem k_222 : Cond.instanceMethod yX6_read ∈ pwAll := sub_13 _ (List.mem_of_getElem? (i := 14) rfl)
theorem k_223 : Cond.selects RX6 yX6_read yX6_read ∈ pwAll := sub_13 _ (List.mem_of_getElem? (i := 15) rfl)
theorem k_224 : Cond.code yX6_read cX6_read 3 (some .int) ∈ pwAll := sub_14 _ (List.mem_of_getElem? (i := 0) rfl)
theorem k_225 : Cond.methodLink RL 34 yX7_read ∈ pwAll := sub_14 _ (List.mem_of_getElem? (i := 1) rfl)
theorem k_226 : Cond.instanceMethod yX7_read ∈ pwAll := sub_14 _ (List.mem_of_getElem? (i := 2) rfl)
theorem k_227 : Cond.selects RX7 yX7_read yX7_read ∈ pwAll := sub_14 _ (List.mem_of_getElem? (i := 3) rfl)
theorem k_228 : Cond.code yX7_read cX7_read 5 (some .int) ∈ pwAll := sub_14 _ (List.mem_of_getElem? (i := 4) rfl)
theorem k_229 : Cond.methodLink RL 35 yX6_where ∈ pwAll := sub_14 _ (List.mem_of_getElem? (i := 5) rfl)
theorem k_230 : Cond.instanceMethod yX6_where ∈ pwAll := sub_14 _ (List.mem_of_getElem? (i := 6) rfl)
theorem k_231 : Cond.selects RX6 yX6_where yX6_where ∈ pwAll := sub_14 _ (List.mem_of_getElem? (i := 7) rfl)
theorem k_232 : Cond.code yX6_where cX6_where 1 (some .int) ∈ pwAll := sub_14 _ (List.mem_of_getElem? (i := 8) rfl)
theorem k_233 : Cond.methodLink RL 38 yX7_where ∈ pwAll := sub_14 _ (List.mem_of_getElem? (i := 9) rfl)
theorem k_234 : Cond.instanceMethod yX7_where ∈ pwAll := sub_14 _ (List.mem_of_getElem? (i := 10) rfl)
theorem k_235 : Cond.selects RX7 yX7_where yX7_where ∈ pwAll := sub_14 _ (List.mem_of_getElem? (i := 11) rfl)
theorem k_236 : Cond.code yX7_where cX7_where 1 (some .int) ∈ pwAll := sub_14 _ (List.mem_of_getElem? (i := 12) rfl)
theorem k_237 : Cond.methodLink RL 39 yX6_count ∈ pwAll := sub_14 _ (List.mem_of_getElem? (i := 13) rfl)
theorem k_238 : Cond.instanceMethod yX6_count ∈ pwAll := sub_14 _ (List.mem_of_getElem? (i := 14) rfl)
theorem k_239 : Cond.selects RX6 yX6_count yX6_count ∈ pwAll := sub_14 _ (List.mem_of_getElem? (i := 15) rfl)
theorem k_240 : Cond.code yX6_count cX6_count 2 (some .int) ∈ pwAll := sub_15 _ (List.mem_of_getElem? (i := 0) rfl)
theorem k_241 : Cond.methodLink RL 42 yX7_count ∈ pwAll := sub_15 _ (List.mem_of_getElem? (i := 1) rfl)
theorem k_242 : Cond.instanceMethod yX7_count ∈ pwAll := sub_15 _ (List.mem_of_getElem? (i := 2) rfl)
theorem k_243 : Cond.selects RX7 yX7_count yX7_count ∈ pwAll := sub_15 _ (List.mem_of_getElem? (i := 3) rfl)
theorem k_244 : Cond.code yX7_count cX7_count 2 (some .int) ∈ pwAll := sub_15 _ (List.mem_of_getElem? (i := 4) rfl)
theorem k_245 : Cond.methodLink RL 43 yX6_group ∈ pwAll := sub_15 _ (List.mem_of_getElem? (i := 5) rfl)
theorem k_246 : Cond.instanceMethod yX6_group ∈ pwAll := sub_15 _ (List.mem_of_getElem? (i := 6) rfl)
theorem k_247 : Cond.selects RX6 yX6_group yX6_group ∈ pwAll := sub_15 _ (List.mem_of_getElem? (i := 7) rfl)
theorem k_248 : Cond.code yX6_group cX6_group 3 (some .int) ∈ pwAll := sub_15 _ (List.mem_of_getElem? (i := 8) rfl)
theorem k_249 : Cond.methodLink RL 46 yX7_group ∈ pwAll := sub_15 _ (List.mem_of_getElem? (i := 9) rfl)
theorem k_250 : Cond.instanceMethod yX7_group ∈ pwAll := sub_15 _ (List.mem_of_getElem? (i := 10) rfl)
theorem k_251 : Cond.selects RX7 yX7_group yX7_group ∈ pwAll := sub_15 _ (List.mem_of_getElem? (i := 11) rfl)
theorem k_252 : Cond.code yX7_group cX7_group 4 (some .int) ∈ pwAll := sub_15 _ (List.mem_of_getElem? (i := 12) rfl)
theorem k_253 : Cond.methodLink RL 47 yX6_setOf ∈ pwAll := sub_15 _ (List.mem_of_getElem? (i := 13) rfl)
theorem k_254 : Cond.instanceMethod yX6_setOf ∈ pwAll := sub_15 _ (List.mem_of_getElem? (i := 14) rfl)
theorem k_255 : Cond.selects RX6 yX6_setOf yX6_setOf ∈ pwAll := sub_15 _ (List.mem_of_getElem? (i := 15) rfl)
theorem k_256 : Cond.code yX6_setOf cX6_setOf 3 (some .int) ∈ pwAll := sub_16 _ (List.mem_of_getElem? (i := 0) rfl)
theorem k_257 : Cond.methodLink RL 50 yX7_setOf ∈ pwAll := sub_16 _ (List.mem_of_getElem? (i := 1) rfl)
theorem k_258 : Cond.instanceMethod yX7_setOf ∈ pwAll := sub_16 _ (List.mem_of_getElem? (i := 2) rfl)
theorem k_259 : Cond.selects RX7 yX7_setOf yX7_setOf ∈ pwAll := sub_16 _ (List.mem_of_getElem? (i := 3) rfl)
theorem k_260 : Cond.code yX7_setOf cX7_setOf 7 (some .int) ∈ pwAll := sub_16 _ (List.mem_of_getElem? (i := 4) rfl)
theorem k_261 : Cond.methodLink RL 51 yX6_fault ∈ pwAll := sub_16 _ (List.mem_of_getElem? (i := 5) rfl)
theorem k_262 : Cond.instanceMethod yX6_fault ∈ pwAll := sub_16 _ (List.mem_of_getElem? (i := 6) rfl)
theorem k_263 : Cond.selects RX6 yX6_fault yX6_fault ∈ pwAll := sub_16 _ (List.mem_of_getElem? (i := 7) rfl)
theorem k_264 : Cond.code yX6_fault cX6_fault 5 (some .int) ∈ pwAll := sub_16 _ (List.mem_of_getElem? (i := 8) rfl)
theorem k_265 : Cond.methodLink RL 55 yX7_fault ∈ pwAll := sub_16 _ (List.mem_of_getElem? (i := 9) rfl)
theorem k_266 : Cond.instanceMethod yX7_fault ∈ pwAll := sub_16 _ (List.mem_of_getElem? (i := 10) rfl)
theorem k_267 : Cond.selects RX7 yX7_fault yX7_fault ∈ pwAll := sub_16 _ (List.mem_of_getElem? (i := 11) rfl)
theorem k_268 : Cond.code yX7_fault cX7_fault 5 (some .int) ∈ pwAll := sub_16 _ (List.mem_of_getElem? (i := 12) rfl)
theorem k_269 : Cond.methodLink RL 56 yX6_level ∈ pwAll := sub_16 _ (List.mem_of_getElem? (i := 13) rfl)
theorem k_270 : Cond.instanceMethod yX6_level ∈ pwAll := sub_16 _ (List.mem_of_getElem? (i := 14) rfl)
theorem k_271 : Cond.selects RX6 yX6_level yX6_level ∈ pwAll := sub_16 _ (List.mem_of_getElem? (i := 15) rfl)
theorem k_272 : Cond.code yX6_level cX6_level 5 (some .int) ∈ pwAll := sub_17 _ (List.mem_of_getElem? (i := 0) rfl)
theorem k_273 : Cond.methodLink RL 59 yX7_level ∈ pwAll := sub_17 _ (List.mem_of_getElem? (i := 1) rfl)
theorem k_274 : Cond.instanceMethod yX7_level ∈ pwAll := sub_17 _ (List.mem_of_getElem? (i := 2) rfl)
theorem k_275 : Cond.selects RX7 yX7_level yX7_level ∈ pwAll := sub_17 _ (List.mem_of_getElem? (i := 3) rfl)
theorem k_276 : Cond.code yX7_level cX7_level 5 (some .int) ∈ pwAll := sub_17 _ (List.mem_of_getElem? (i := 4) rfl)
theorem k_277 : Cond.methodLink RL 60 yX6_claim ∈ pwAll := sub_17 _ (List.mem_of_getElem? (i := 5) rfl)
theorem k_278 : Cond.instanceMethod yX6_claim ∈ pwAll := sub_17 _ (List.mem_of_getElem? (i := 6) rfl)
theorem k_279 : Cond.selects RX6 yX6_claim yX6_claim ∈ pwAll := sub_17 _ (List.mem_of_getElem? (i := 7) rfl)
theorem k_280 : Cond.code yX6_claim cX6_claim 6 (some .int) ∈ pwAll := sub_17 _ (List.mem_of_getElem? (i := 8) rfl)
theorem k_281 : Cond.methodLink RL 63 yX7_claim ∈ pwAll := sub_17 _ (List.mem_of_getElem? (i := 9) rfl)
theorem k_282 : Cond.instanceMethod yX7_claim ∈ pwAll := sub_17 _ (List.mem_of_getElem? (i := 10) rfl)
theorem k_283 : Cond.selects RX7 yX7_claim yX7_claim ∈ pwAll := sub_17 _ (List.mem_of_getElem? (i := 11) rfl)
theorem k_284 : Cond.code yX7_claim cX7_claim 7 (some .int) ∈ pwAll := sub_17 _ (List.mem_of_getElem? (i := 12) rfl)
theorem k_285 : Cond.methodLink RL 64 yX6_size ∈ pwAll := sub_17 _ (List.mem_of_getElem? (i := 13) rfl)
theorem k_286 : Cond.instanceMethod yX6_size ∈ pwAll := sub_17 _ (List.mem_of_getElem? (i := 14) rfl)
theorem k_287 : Cond.selects RX6 yX6_size yX6_size ∈ pwAll := sub_17 _ (List.mem_of_getElem? (i := 15) rfl)
theorem k_288 : Cond.code yX6_size cX6_size 3 (some .int) ∈ pwAll := sub_18 _ (List.mem_of_getElem? (i := 0) rfl)
theorem k_289 : Cond.methodLink RL 67 yX7_size ∈ pwAll := sub_18 _ (List.mem_of_getElem? (i := 1) rfl)
theorem k_290 : Cond.instanceMethod yX7_size ∈ pwAll := sub_18 _ (List.mem_of_getElem? (i := 2) rfl)
theorem k_291 : Cond.selects RX7 yX7_size yX7_size ∈ pwAll := sub_18 _ (List.mem_of_getElem? (i := 3) rfl)
theorem k_292 : Cond.code yX7_size cX7_size 3 (some .int) ∈ pwAll := sub_18 _ (List.mem_of_getElem? (i := 4) rfl)
theorem k_293 : Cond.methodLink RL 68 yX6_byteOf ∈ pwAll := sub_18 _ (List.mem_of_getElem? (i := 5) rfl)
theorem k_294 : Cond.instanceMethod yX6_byteOf ∈ pwAll := sub_18 _ (List.mem_of_getElem? (i := 6) rfl)
theorem k_295 : Cond.selects RX6 yX6_byteOf yX6_byteOf ∈ pwAll := sub_18 _ (List.mem_of_getElem? (i := 7) rfl)
theorem k_296 : Cond.code yX6_byteOf cX6_byteOf 5 (some .int) ∈ pwAll := sub_18 _ (List.mem_of_getElem? (i := 8) rfl)
theorem k_297 : Cond.methodLink RL 71 yX7_byteOf ∈ pwAll := sub_18 _ (List.mem_of_getElem? (i := 9) rfl)
theorem k_298 : Cond.instanceMethod yX7_byteOf ∈ pwAll := sub_18 _ (List.mem_of_getElem? (i := 10) rfl)
theorem k_299 : Cond.selects RX7 yX7_byteOf yX7_byteOf ∈ pwAll := sub_18 _ (List.mem_of_getElem? (i := 11) rfl)
theorem k_300 : Cond.code yX7_byteOf cX7_byteOf 4 (some .int) ∈ pwAll := sub_18 _ (List.mem_of_getElem? (i := 12) rfl)
theorem k_301 : Cond.methodLink RL 72 yX6_answer ∈ pwAll := sub_18 _ (List.mem_of_getElem? (i := 13) rfl)
theorem k_302 : Cond.instanceMethod yX6_answer ∈ pwAll := sub_18 _ (List.mem_of_getElem? (i := 14) rfl)
theorem k_303 : Cond.selects RX6 yX6_answer yX6_answer ∈ pwAll := sub_18 _ (List.mem_of_getElem? (i := 15) rfl)
theorem k_304 : Cond.code yX6_answer cX6_answer 2 (some .int) ∈ pwAll := sub_19 _ (List.mem_of_getElem? (i := 0) rfl)
theorem k_305 : Cond.methodLink RL 75 yX7_answer ∈ pwAll := sub_19 _ (List.mem_of_getElem? (i := 1) rfl)
theorem k_306 : Cond.instanceMethod yX7_answer ∈ pwAll := sub_19 _ (List.mem_of_getElem? (i := 2) rfl)
theorem k_307 : Cond.selects RX7 yX7_answer yX7_answer ∈ pwAll := sub_19 _ (List.mem_of_getElem? (i := 3) rfl)
theorem k_308 : Cond.code yX7_answer cX7_answer 2 (some .int) ∈ pwAll := sub_19 _ (List.mem_of_getElem? (i := 4) rfl)
theorem k_309 : Cond.methodLink RL 76 yX6_answered ∈ pwAll := sub_19 _ (List.mem_of_getElem? (i := 5) rfl)
theorem k_310 : Cond.instanceMethod yX6_answered ∈ pwAll := sub_19 _ (List.mem_of_getElem? (i := 6) rfl)
theorem k_311 : Cond.selects RX6 yX6_answered yX6_answered ∈ pwAll := sub_19 _ (List.mem_of_getElem? (i := 7) rfl)
theorem k_312 : Cond.code yX6_answered cX6_answered 3 (some .int) ∈ pwAll := sub_19 _ (List.mem_of_getElem? (i := 8) rfl)
theorem k_313 : Cond.methodLink RL 79 yX7_answered ∈ pwAll := sub_19 _ (List.mem_of_getElem? (i := 9) rfl)
theorem k_314 : Cond.instanceMethod yX7_answered ∈ pwAll := sub_19 _ (List.mem_of_getElem? (i := 10) rfl)
theorem k_315 : Cond.selects RX7 yX7_answered yX7_answered ∈ pwAll := sub_19 _ (List.mem_of_getElem? (i := 11) rfl)
theorem k_316 : Cond.code yX7_answered cX7_answered 2 (some .int) ∈ pwAll := sub_19 _ (List.mem_of_getElem? (i := 12) rfl)
theorem k_317 : Cond.methodLink RL 80 yX6_turn ∈ pwAll := sub_19 _ (List.mem_of_getElem? (i := 13) rfl)
theorem k_318 : Cond.instanceMethod yX6_turn ∈ pwAll := sub_19 _ (List.mem_of_getElem? (i := 14) rfl)
theorem k_319 : Cond.selects RX6 yX6_turn yX6_turn ∈ pwAll := sub_19 _ (List.mem_of_getElem? (i := 15) rfl)
theorem k_320 : Cond.code yX6_turn cX6_turn 2 (some .int) ∈ pwAll := sub_20 _ (List.mem_of_getElem? (i := 0) rfl)
theorem k_321 : Cond.methodLink RL 83 yX7_turn ∈ pwAll := sub_20 _ (List.mem_of_getElem? (i := 1) rfl)
theorem k_322 : Cond.instanceMethod yX7_turn ∈ pwAll := sub_20 _ (List.mem_of_getElem? (i := 2) rfl)
theorem k_323 : Cond.selects RX7 yX7_turn yX7_turn ∈ pwAll := sub_20 _ (List.mem_of_getElem? (i := 3) rfl)
theorem k_324 : Cond.code yX7_turn cX7_turn 2 (some .int) ∈ pwAll := sub_20 _ (List.mem_of_getElem? (i := 4) rfl)
def pwX0_append : List Cond := .code yX0_append cX0_append 2 (some .boolean) :: pwAll
def pwX0_at : List Cond := .code yX0_at cX0_at 2 (some .int) :: pwAll
def pwX0_become : List Cond := .code yX0_become cX0_become 3 none :: pwAll
def pwX0_init : List Cond := .code yX0_init cX0_init 2 none :: pwAll
def pwX0_length : List Cond := .code yX0_length cX0_length 1 (some .int) :: pwAll
def pwX0_shorten : List Cond := .code yX0_shorten cX0_shorten 2 none :: pwAll
def pwX1_clear : List Cond := .code yX1_clear cX1_clear 1 none :: pwAll
def pwX1_init : List Cond := .code yX1_init cX1_init 2 none :: pwAll
def pwX2_init : List Cond := .code yX2_init cX2_init 3 none :: pwAll
def pwX3_closer : List Cond := .code yX3_closer cX3_closer 1 (some .int) :: pwAll
def pwX3_init : List Cond := .code yX3_init cX3_init 1 none :: pwAll
def pwX3_opens : List Cond := .code yX3_opens cX3_opens 4 (some .boolean) :: pwAll
def pwX3_splitter : List Cond := .code yX3_splitter cX3_splitter 1 (some .int) :: pwAll
def pwX3_take : List Cond := .code yX3_take cX3_take 2 none :: pwAll
def pwX4_init : List Cond := .code yX4_init cX4_init 3 none :: pwAll
def pwX5_at : List Cond := .code yX5_at cX5_at 2 (some .int) :: pwAll
def pwX5_init : List Cond := .code yX5_init cX5_init 2 none :: pwAll
def pwX5_length : List Cond := .code yX5_length cX5_length 1 (some .int) :: pwAll
def pwX6_answer : List Cond := .code yX6_answer cX6_answer 2 (some .int) :: pwAll
def pwX6_answered : List Cond := .code yX6_answered cX6_answered 3 (some .int) :: pwAll
def pwX6_byteOf : List Cond := .code yX6_byteOf cX6_byteOf 5 (some .int) :: pwAll
def pwX6_claim : List Cond := .code yX6_claim cX6_claim 6 (some .int) :: pwAll
def pwX6_count : List Cond := .code yX6_count cX6_count 2 (some .int) :: pwAll
def pwX6_cut : List Cond := .code yX6_cut cX6_cut 3 (some .int) :: pwAll
def pwX6_fault : List Cond := .code yX6_fault cX6_fault 5 (some .int) :: pwAll
def pwX6_feed : List Cond := .code yX6_feed cX6_feed 5 (some .int) :: pwAll
def pwX6_group : List Cond := .code yX6_group cX6_group 3 (some .int) :: pwAll
def pwX6_init : List Cond := .code yX6_init cX6_init 1 none :: pwAll
def pwX6_level : List Cond := .code yX6_level cX6_level 5 (some .int) :: pwAll
def pwX6_read : List Cond := .code yX6_read cX6_read 3 (some .int) :: pwAll
def pwX6_set : List Cond := .code yX6_set cX6_set 4 (some .int) :: pwAll
def pwX6_setOf : List Cond := .code yX6_setOf cX6_setOf 3 (some .int) :: pwAll
def pwX6_size : List Cond := .code yX6_size cX6_size 3 (some .int) :: pwAll
def pwX6_tell : List Cond := .code yX6_tell cX6_tell 3 (some .int) :: pwAll
def pwX6_turn : List Cond := .code yX6_turn cX6_turn 2 (some .int) :: pwAll
def pwX6_where : List Cond := .code yX6_where cX6_where 1 (some .int) :: pwAll
def pwX7_answer : List Cond := .code yX7_answer cX7_answer 2 (some .int) :: pwAll
def pwX7_answered : List Cond := .code yX7_answered cX7_answered 2 (some .int) :: pwAll
def pwX7_byteOf : List Cond := .code yX7_byteOf cX7_byteOf 4 (some .int) :: pwAll
def pwX7_claim : List Cond := .code yX7_claim cX7_claim 7 (some .int) :: pwAll
def pwX7_count : List Cond := .code yX7_count cX7_count 2 (some .int) :: pwAll
def pwX7_cut : List Cond := .code yX7_cut cX7_cut 3 (some .int) :: pwAll
def pwX7_fault : List Cond := .code yX7_fault cX7_fault 5 (some .int) :: pwAll
def pwX7_feed : List Cond := .code yX7_feed cX7_feed 5 (some .int) :: pwAll
def pwX7_found : List Cond := .code yX7_found cX7_found 3 (some .int) :: pwAll
def pwX7_group : List Cond := .code yX7_group cX7_group 4 (some .int) :: pwAll
def pwX7_in : List Cond := .code yX7_in cX7_in 3 (some .boolean) :: pwAll
def pwX7_init : List Cond := .code yX7_init cX7_init 1 none :: pwAll
def pwX7_isOpening : List Cond := .code yX7_isOpening cX7_isOpening 3 (some .boolean) :: pwAll
def pwX7_level : List Cond := .code yX7_level cX7_level 5 (some .int) :: pwAll
def pwX7_read : List Cond := .code yX7_read cX7_read 5 (some .int) :: pwAll
def pwX7_set : List Cond := .code yX7_set cX7_set 4 (some .int) :: pwAll
def pwX7_setOf : List Cond := .code yX7_setOf cX7_setOf 7 (some .int) :: pwAll
def pwX7_size : List Cond := .code yX7_size cX7_size 3 (some .int) :: pwAll
def pwX7_turn : List Cond := .code yX7_turn cX7_turn 2 (some .int) :: pwAll
def pwX7_where : List Cond := .code yX7_where cX7_where 1 (some .int) :: pwAll
end
section
set_option maxRecDepth 20000 in
theorem pw_0_in : ∀ w ∈ pw_0, w ∈ lw_tbl := List.forall_mem_cons.mpr ⟨List.mem_of_getElem? (i := 90) (by decide +kernel), List.forall_mem_cons.mpr ⟨List.mem_of_getElem? (i := 83) (by decide +kernel), List.forall_mem_cons.mpr ⟨List.mem_of_getElem? (i := 84) (by decide +kernel), List.forall_mem_cons.mpr ⟨List.mem_of_getElem? (i := 91) (by decide +kernel), List.forall_mem_cons.mpr ⟨List.mem_of_getElem? (i := 92) (by decide +kernel), List.forall_mem_cons.mpr ⟨List.mem_of_getElem? (i := 70) (by decide +kernel), List.forall_mem_cons.mpr ⟨List.mem_of_getElem? (i := 93) (by decide +kernel), List.forall_mem_cons.mpr ⟨List.mem_of_getElem? (i := 101) (by decide +kernel), List.forall_mem_cons.mpr ⟨List.mem_of_getElem? (i := 94) (by decide +kernel), List.forall_mem_cons.mpr ⟨List.mem_of_getElem? (i := 95) (by decide +kernel), List.forall_mem_cons.mpr ⟨List.mem_of_getElem? (i := 115) (by decide +kernel), List.forall_mem_cons.mpr ⟨List.mem_of_getElem? (i := 117) (by decide +kernel), List.forall_mem_cons.mpr ⟨List.mem_of_getElem? (i := 118) (by decide +kernel), List.forall_mem_cons.mpr ⟨List.mem_of_getElem? (i := 116) (by decide +kernel), List.forall_mem_cons.mpr ⟨List.mem_of_getElem? (i := 127) (by decide +kernel), List.forall_mem_cons.mpr ⟨List.mem_of_getElem? (i := 119) (by decide +kernel), fun _ h => absurd h List.not_mem_nil⟩⟩⟩⟩⟩⟩⟩⟩⟩⟩⟩⟩⟩⟩⟩⟩
theorem pw_0_ok : pw_0.all goodWord = true := by decide +kernel
set_option maxRecDepth 20000 in
theorem pw_1_in : ∀ w ∈ pw_1, w ∈ lw_tbl := List.forall_mem_cons.mpr ⟨List.mem_of_getElem? (i := 107) (by decide +kernel), List.forall_mem_cons.mpr ⟨List.mem_of_getElem? (i := 108) (by decide +kernel), List.forall_mem_cons.mpr ⟨List.mem_of_getElem? (i := 86) (by decide +kernel), List.forall_mem_cons.mpr ⟨List.mem_of_getElem? (i := 69) (by decide +kernel), List.forall_mem_cons.mpr ⟨List.mem_of_getElem? (i := 89) (by decide +kernel), List.forall_mem_cons.mpr ⟨List.mem_of_getElem? (i := 109) (by decide +kernel), List.forall_mem_cons.mpr ⟨List.mem_of_getElem? (i := 88) (by decide +kernel), List.forall_mem_cons.mpr ⟨List.mem_of_getElem? (i := 128) (by decide +kernel), List.forall_mem_cons.mpr ⟨List.mem_of_getElem? (i := 110) (by decide +kernel), List.forall_mem_cons.mpr ⟨List.mem_of_getElem? (i := 111) (by decide +kernel), List.forall_mem_cons.mpr ⟨List.mem_of_getElem? (i := 72) (by decide +kernel), List.forall_mem_cons.mpr ⟨List.mem_of_getElem? (i := 114) (by decide +kernel), List.forall_mem_cons.mpr ⟨List.mem_of_getElem? (i := 112) (by decide +kernel), List.forall_mem_cons.mpr ⟨List.mem_of_getElem? (i := 113) (by decide +kernel), List.forall_mem_cons.mpr ⟨List.mem_of_getElem? (i := 129) (by decide +kernel), List.forall_mem_cons.mpr ⟨List.mem_of_getElem? (i := 130) (by decide +kernel), fun _ h => absurd h List.not_mem_nil⟩⟩⟩⟩⟩⟩⟩⟩⟩⟩⟩⟩⟩⟩⟩⟩
theorem pw_1_ok : pw_1.all goodWord = true := by decide +kernel
set_option maxRecDepth 20000 in
theorem pw_2_in : ∀ w ∈ pw_2, w ∈ lw_tbl := List.forall_mem_cons.mpr ⟨List.mem_of_getElem? (i := 131) (by decide +kernel), List.forall_mem_cons.mpr ⟨List.mem_of_getElem? (i := 132) (by decide +kernel), List.forall_mem_cons.mpr ⟨List.mem_of_getElem? (i := 149) (by decide +kernel), List.forall_mem_cons.mpr ⟨List.mem_of_getElem? (i := 152) (by decide +kernel), List.forall_mem_cons.mpr ⟨List.mem_of_getElem? (i := 150) (by decide +kernel), List.forall_mem_cons.mpr ⟨List.mem_of_getElem? (i := 151) (by decide +kernel), List.forall_mem_cons.mpr ⟨List.mem_of_getElem? (i := 153) (by decide +kernel), List.forall_mem_cons.mpr ⟨List.mem_of_getElem? (i := 154) (by decide +kernel), List.forall_mem_cons.mpr ⟨List.mem_of_getElem? (i := 155) (by decide +kernel), List.forall_mem_cons.mpr ⟨List.mem_of_getElem? (i := 156) (by decide +kernel), List.forall_mem_cons.mpr ⟨List.mem_of_getElem? (i := 157) (by decide +kernel), List.forall_mem_cons.mpr ⟨List.mem_of_getElem? (i := 176) (by decide +kernel), List.forall_mem_cons.mpr ⟨List.mem_of_getElem? (i := 179) (by decide +kernel), List.forall_mem_cons.mpr ⟨List.mem_of_getElem? (i := 180) (by decide +kernel), List.forall_mem_cons.mpr ⟨List.mem_of_getElem? (i := 177) (by decide +kernel), List.forall_mem_cons.mpr ⟨List.mem_of_getElem? (i := 178) (by decide +kernel), fun _ h => absurd h List.not_mem_nil⟩⟩⟩⟩⟩⟩⟩⟩⟩⟩⟩⟩⟩⟩⟩⟩
theorem pw_2_ok : pw_2.all goodWord = true := by decide +kernel
set_option maxRecDepth 20000 in
theorem pw_3_in : ∀ w ∈ pw_3, w ∈ lw_tbl := List.forall_mem_cons.mpr ⟨List.mem_of_getElem? (i := 181) (by decide +kernel), List.forall_mem_cons.mpr ⟨List.mem_of_getElem? (i := 182) (by decide +kernel), List.forall_mem_cons.mpr ⟨List.mem_of_getElem? (i := 183) (by decide +kernel), List.forall_mem_cons.mpr ⟨List.mem_of_getElem? (i := 200) (by decide +kernel), List.forall_mem_cons.mpr ⟨List.mem_of_getElem? (i := 203) (by decide +kernel), List.forall_mem_cons.mpr ⟨List.mem_of_getElem? (i := 201) (by decide +kernel), List.forall_mem_cons.mpr ⟨List.mem_of_getElem? (i := 202) (by decide +kernel), List.forall_mem_cons.mpr ⟨List.mem_of_getElem? (i := 204) (by decide +kernel), List.forall_mem_cons.mpr ⟨List.mem_of_getElem? (i := 205) (by decide +kernel), List.forall_mem_cons.mpr ⟨List.mem_of_getElem? (i := 82) (by decide +kernel), List.forall_mem_cons.mpr ⟨List.mem_of_getElem? (i := 85) (by decide +kernel), List.forall_mem_cons.mpr ⟨List.mem_of_getElem? (i := 87) (by decide +kernel), List.forall_mem_cons.mpr ⟨List.mem_of_getElem? (i := 213) (by decide +kernel), List.forall_mem_cons.mpr ⟨List.mem_of_getElem? (i := 102) (by decide +kernel), List.forall_mem_cons.mpr ⟨List.mem_of_getElem? (i := 103) (by decide +kernel), List.forall_mem_cons.mpr ⟨List.mem_of_getElem? (i := 71) (by decide +kernel), fun _ h => absurd h List.not_mem_nil⟩⟩⟩⟩⟩⟩⟩⟩⟩⟩⟩⟩⟩⟩⟩⟩
theorem pw_3_ok : pw_3.all goodWord = true := by decide +kernel
set_option maxRecDepth 20000 in
theorem pw_4_in : ∀ w ∈ pw_4, w ∈ lw_tbl := List.forall_mem_cons.mpr ⟨List.mem_of_getElem? (i := 106) (by decide +kernel), List.forall_mem_cons.mpr ⟨List.mem_of_getElem? (i := 104) (by decide +kernel), List.forall_mem_cons.mpr ⟨List.mem_of_getElem? (i := 105) (by decide +kernel), List.forall_mem_cons.mpr ⟨List.mem_of_getElem? (i := 214) (by decide +kernel), List.forall_mem_cons.mpr ⟨List.mem_of_getElem? (i := 144) (by decide +kernel), List.forall_mem_cons.mpr ⟨List.mem_of_getElem? (i := 145) (by decide +kernel), List.forall_mem_cons.mpr ⟨List.mem_of_getElem? (i := 73) (by decide +kernel), List.forall_mem_cons.mpr ⟨List.mem_of_getElem? (i := 148) (by decide +kernel), List.forall_mem_cons.mpr ⟨List.mem_of_getElem? (i := 146) (by decide +kernel), List.forall_mem_cons.mpr ⟨List.mem_of_getElem? (i := 147) (by decide +kernel), List.forall_mem_cons.mpr ⟨List.mem_of_getElem? (i := 215) (by decide +kernel), List.forall_mem_cons.mpr ⟨List.mem_of_getElem? (i := 171) (by decide +kernel), List.forall_mem_cons.mpr ⟨List.mem_of_getElem? (i := 172) (by decide +kernel), List.forall_mem_cons.mpr ⟨List.mem_of_getElem? (i := 74) (by decide +kernel), List.forall_mem_cons.mpr ⟨List.mem_of_getElem? (i := 175) (by decide +kernel), List.forall_mem_cons.mpr ⟨List.mem_of_getElem? (i := 173) (by decide +kernel), fun _ h => absurd h List.not_mem_nil⟩⟩⟩⟩⟩⟩⟩⟩⟩⟩⟩⟩⟩⟩⟩⟩
theorem pw_4_ok : pw_4.all goodWord = true := by decide +kernel
set_option maxRecDepth 20000 in
theorem pw_5_in : ∀ w ∈ pw_5, w ∈ lw_tbl := List.forall_mem_cons.mpr ⟨List.mem_of_getElem? (i := 174) (by decide +kernel), List.forall_mem_cons.mpr ⟨List.mem_of_getElem? (i := 216) (by decide +kernel), List.forall_mem_cons.mpr ⟨List.mem_of_getElem? (i := 195) (by decide +kernel), List.forall_mem_cons.mpr ⟨List.mem_of_getElem? (i := 196) (by decide +kernel), List.forall_mem_cons.mpr ⟨List.mem_of_getElem? (i := 75) (by decide +kernel), List.forall_mem_cons.mpr ⟨List.mem_of_getElem? (i := 199) (by decide +kernel), List.forall_mem_cons.mpr ⟨List.mem_of_getElem? (i := 197) (by decide +kernel), List.forall_mem_cons.mpr ⟨List.mem_of_getElem? (i := 198) (by decide +kernel), List.forall_mem_cons.mpr ⟨List.mem_of_getElem? (i := 217) (by decide +kernel), List.forall_mem_cons.mpr ⟨List.mem_of_getElem? (i := 218) (by decide +kernel), List.forall_mem_cons.mpr ⟨List.mem_of_getElem? (i := 219) (by decide +kernel), List.forall_mem_cons.mpr ⟨List.mem_of_getElem? (i := 268) (by decide +kernel), List.forall_mem_cons.mpr ⟨List.mem_of_getElem? (i := 269) (by decide +kernel), List.forall_mem_cons.mpr ⟨List.mem_of_getElem? (i := 270) (by decide +kernel), List.forall_mem_cons.mpr ⟨List.mem_of_getElem? (i := 279) (by decide +kernel), List.forall_mem_cons.mpr ⟨List.mem_of_getElem? (i := 280) (by decide +kernel), fun _ h => absurd h List.not_mem_nil⟩⟩⟩⟩⟩⟩⟩⟩⟩⟩⟩⟩⟩⟩⟩⟩
theorem pw_5_ok : pw_5.all goodWord = true := by decide +kernel
set_option maxRecDepth 20000 in
theorem pw_6_in : ∀ w ∈ pw_6, w ∈ lw_tbl := List.forall_mem_cons.mpr ⟨List.mem_of_getElem? (i := 281) (by decide +kernel), List.forall_mem_cons.mpr ⟨List.mem_of_getElem? (i := 282) (by decide +kernel), List.forall_mem_cons.mpr ⟨List.mem_of_getElem? (i := 297) (by decide +kernel), List.forall_mem_cons.mpr ⟨List.mem_of_getElem? (i := 253) (by decide +kernel), List.forall_mem_cons.mpr ⟨List.mem_of_getElem? (i := 254) (by decide +kernel), List.forall_mem_cons.mpr ⟨List.mem_of_getElem? (i := 255) (by decide +kernel), List.forall_mem_cons.mpr ⟨List.mem_of_getElem? (i := 293) (by decide +kernel), List.forall_mem_cons.mpr ⟨List.mem_of_getElem? (i := 294) (by decide +kernel), List.forall_mem_cons.mpr ⟨List.mem_of_getElem? (i := 295) (by decide +kernel), List.forall_mem_cons.mpr ⟨List.mem_of_getElem? (i := 296) (by decide +kernel), List.forall_mem_cons.mpr ⟨List.mem_of_getElem? (i := 298) (by decide +kernel), List.forall_mem_cons.mpr ⟨List.mem_of_getElem? (i := 299) (by decide +kernel), List.forall_mem_cons.mpr ⟨List.mem_of_getElem? (i := 300) (by decide +kernel), List.forall_mem_cons.mpr ⟨List.mem_of_getElem? (i := 301) (by decide +kernel), List.forall_mem_cons.mpr ⟨List.mem_of_getElem? (i := 302) (by decide +kernel), List.forall_mem_cons.mpr ⟨List.mem_of_getElem? (i := 240) (by decide +kernel), fun _ h => absurd h List.not_mem_nil⟩⟩⟩⟩⟩⟩⟩⟩⟩⟩⟩⟩⟩⟩⟩⟩
theorem pw_6_ok : pw_6.all goodWord = true := by decide +kernel
set_option maxRecDepth 20000 in
theorem pw_7_in : ∀ w ∈ pw_7, w ∈ lw_tbl := List.forall_mem_cons.mpr ⟨List.mem_of_getElem? (i := 241) (by decide +kernel), List.forall_mem_cons.mpr ⟨List.mem_of_getElem? (i := 242) (by decide +kernel), List.forall_mem_cons.mpr ⟨List.mem_of_getElem? (i := 700) (by decide +kernel), List.forall_mem_cons.mpr ⟨List.mem_of_getElem? (i := 558) (by decide +kernel), List.forall_mem_cons.mpr ⟨List.mem_of_getElem? (i := 239) (by decide +kernel), List.forall_mem_cons.mpr ⟨List.mem_of_getElem? (i := 264) (by decide +kernel), List.forall_mem_cons.mpr ⟨List.mem_of_getElem? (i := 265) (by decide +kernel), List.forall_mem_cons.mpr ⟨List.mem_of_getElem? (i := 266) (by decide +kernel), List.forall_mem_cons.mpr ⟨List.mem_of_getElem? (i := 267) (by decide +kernel), List.forall_mem_cons.mpr ⟨List.mem_of_getElem? (i := 554) (by decide +kernel), List.forall_mem_cons.mpr ⟨List.mem_of_getElem? (i := 555) (by decide +kernel), List.forall_mem_cons.mpr ⟨List.mem_of_getElem? (i := 556) (by decide +kernel), List.forall_mem_cons.mpr ⟨List.mem_of_getElem? (i := 557) (by decide +kernel), List.forall_mem_cons.mpr ⟨List.mem_of_getElem? (i := 696) (by decide +kernel), List.forall_mem_cons.mpr ⟨List.mem_of_getElem? (i := 697) (by decide +kernel), List.forall_mem_cons.mpr ⟨List.mem_of_getElem? (i := 698) (by decide +kernel), fun _ h => absurd h List.not_mem_nil⟩⟩⟩⟩⟩⟩⟩⟩⟩⟩⟩⟩⟩⟩⟩⟩
theorem pw_7_ok : pw_7.all goodWord = true := by decide +kernel
set_option maxRecDepth 20000 in
theorem pw_8_in : ∀ w ∈ pw_8, w ∈ lw_tbl := List.forall_mem_cons.mpr ⟨List.mem_of_getElem? (i := 699) (by decide +kernel), List.forall_mem_cons.mpr ⟨List.mem_of_getElem? (i := 275) (by decide +kernel), List.forall_mem_cons.mpr ⟨List.mem_of_getElem? (i := 276) (by decide +kernel), List.forall_mem_cons.mpr ⟨List.mem_of_getElem? (i := 277) (by decide +kernel), List.forall_mem_cons.mpr ⟨List.mem_of_getElem? (i := 278) (by decide +kernel), List.forall_mem_cons.mpr ⟨List.mem_of_getElem? (i := 285) (by decide +kernel), List.forall_mem_cons.mpr ⟨List.mem_of_getElem? (i := 286) (by decide +kernel), List.forall_mem_cons.mpr ⟨List.mem_of_getElem? (i := 287) (by decide +kernel), List.forall_mem_cons.mpr ⟨List.mem_of_getElem? (i := 288) (by decide +kernel), List.forall_mem_cons.mpr ⟨List.mem_of_getElem? (i := 289) (by decide +kernel), List.forall_mem_cons.mpr ⟨List.mem_of_getElem? (i := 290) (by decide +kernel), List.forall_mem_cons.mpr ⟨List.mem_of_getElem? (i := 291) (by decide +kernel), List.forall_mem_cons.mpr ⟨List.mem_of_getElem? (i := 292) (by decide +kernel), List.forall_mem_cons.mpr ⟨List.mem_of_getElem? (i := 333) (by decide +kernel), List.forall_mem_cons.mpr ⟨List.mem_of_getElem? (i := 335) (by decide +kernel), List.forall_mem_cons.mpr ⟨List.mem_of_getElem? (i := 2) (by decide +kernel), fun _ h => absurd h List.not_mem_nil⟩⟩⟩⟩⟩⟩⟩⟩⟩⟩⟩⟩⟩⟩⟩⟩
theorem pw_8_ok : pw_8.all goodWord = true := by decide +kernel
set_option maxRecDepth 20000 in
theorem pw_9_in : ∀ w ∈ pw_9, w ∈ lw_tbl := List.forall_mem_cons.mpr ⟨List.mem_of_getElem? (i := 68) (by decide +kernel), List.forall_mem_cons.mpr ⟨List.mem_of_getElem? (i := 336) (by decide +kernel), List.forall_mem_cons.mpr ⟨List.mem_of_getElem? (i := 243) (by decide +kernel), List.forall_mem_cons.mpr ⟨List.mem_of_getElem? (i := 244) (by decide +kernel), List.forall_mem_cons.mpr ⟨List.mem_of_getElem? (i := 245) (by decide +kernel), List.forall_mem_cons.mpr ⟨List.mem_of_getElem? (i := 246) (by decide +kernel), List.forall_mem_cons.mpr ⟨List.mem_of_getElem? (i := 247) (by decide +kernel), List.forall_mem_cons.mpr ⟨List.mem_of_getElem? (i := 715) (by decide +kernel), List.forall_mem_cons.mpr ⟨List.mem_of_getElem? (i := 717) (by decide +kernel), List.forall_mem_cons.mpr ⟨List.mem_of_getElem? (i := 719) (by decide +kernel), List.forall_mem_cons.mpr ⟨List.mem_of_getElem? (i := 723) (by decide +kernel), List.forall_mem_cons.mpr ⟨List.mem_of_getElem? (i := 726) (by decide +kernel), List.forall_mem_cons.mpr ⟨List.mem_of_getElem? (i := 727) (by decide +kernel), List.forall_mem_cons.mpr ⟨List.mem_of_getElem? (i := 728) (by decide +kernel), List.forall_mem_cons.mpr ⟨List.mem_of_getElem? (i := 729) (by decide +kernel), List.forall_mem_cons.mpr ⟨List.mem_of_getElem? (i := 804) (by decide +kernel), fun _ h => absurd h List.not_mem_nil⟩⟩⟩⟩⟩⟩⟩⟩⟩⟩⟩⟩⟩⟩⟩⟩
theorem pw_9_ok : pw_9.all goodWord = true := by decide +kernel
set_option maxRecDepth 20000 in
theorem pw_10_in : ∀ w ∈ pw_10, w ∈ lw_tbl := List.forall_mem_cons.mpr ⟨List.mem_of_getElem? (i := 730) (by decide +kernel), List.forall_mem_cons.mpr ⟨List.mem_of_getElem? (i := 731) (by decide +kernel), List.forall_mem_cons.mpr ⟨List.mem_of_getElem? (i := 732) (by decide +kernel), List.forall_mem_cons.mpr ⟨List.mem_of_getElem? (i := 734) (by decide +kernel), List.forall_mem_cons.mpr ⟨List.mem_of_getElem? (i := 735) (by decide +kernel), List.forall_mem_cons.mpr ⟨List.mem_of_getElem? (i := 736) (by decide +kernel), List.forall_mem_cons.mpr ⟨List.mem_of_getElem? (i := 738) (by decide +kernel), List.forall_mem_cons.mpr ⟨List.mem_of_getElem? (i := 739) (by decide +kernel), List.forall_mem_cons.mpr ⟨List.mem_of_getElem? (i := 740) (by decide +kernel), List.forall_mem_cons.mpr ⟨List.mem_of_getElem? (i := 742) (by decide +kernel), List.forall_mem_cons.mpr ⟨List.mem_of_getElem? (i := 718) (by decide +kernel), List.forall_mem_cons.mpr ⟨List.mem_of_getElem? (i := 716) (by decide +kernel), List.forall_mem_cons.mpr ⟨List.mem_of_getElem? (i := 809) (by decide +kernel), List.forall_mem_cons.mpr ⟨List.mem_of_getElem? (i := 810) (by decide +kernel), List.forall_mem_cons.mpr ⟨List.mem_of_getElem? (i := 76) (by decide +kernel), List.forall_mem_cons.mpr ⟨List.mem_of_getElem? (i := 811) (by decide +kernel), fun _ h => absurd h List.not_mem_nil⟩⟩⟩⟩⟩⟩⟩⟩⟩⟩⟩⟩⟩⟩⟩⟩
theorem pw_10_ok : pw_10.all goodWord = true := by decide +kernel
set_option maxRecDepth 20000 in
theorem pw_11_in : ∀ w ∈ pw_11, w ∈ lw_tbl := List.forall_mem_cons.mpr ⟨List.mem_of_getElem? (i := 741) (by decide +kernel), List.forall_mem_cons.mpr ⟨List.mem_of_getElem? (i := 825) (by decide +kernel), List.forall_mem_cons.mpr ⟨List.mem_of_getElem? (i := 827) (by decide +kernel), List.forall_mem_cons.mpr ⟨List.mem_of_getElem? (i := 25) (by decide +kernel), List.forall_mem_cons.mpr ⟨List.mem_of_getElem? (i := 828) (by decide +kernel), List.forall_mem_cons.mpr ⟨List.mem_of_getElem? (i := 838) (by decide +kernel), List.forall_mem_cons.mpr ⟨List.mem_of_getElem? (i := 840) (by decide +kernel), List.forall_mem_cons.mpr ⟨List.mem_of_getElem? (i := 26) (by decide +kernel), List.forall_mem_cons.mpr ⟨List.mem_of_getElem? (i := 841) (by decide +kernel), List.forall_mem_cons.mpr ⟨List.mem_of_getElem? (i := 812) (by decide +kernel), List.forall_mem_cons.mpr ⟨List.mem_of_getElem? (i := 77) (by decide +kernel), List.forall_mem_cons.mpr ⟨List.mem_of_getElem? (i := 78) (by decide +kernel), List.forall_mem_cons.mpr ⟨List.mem_of_getElem? (i := 81) (by decide +kernel), List.forall_mem_cons.mpr ⟨List.mem_of_getElem? (i := 79) (by decide +kernel), List.forall_mem_cons.mpr ⟨List.mem_of_getElem? (i := 80) (by decide +kernel), List.forall_mem_cons.mpr ⟨List.mem_of_getElem? (i := 710) (by decide +kernel), fun _ h => absurd h List.not_mem_nil⟩⟩⟩⟩⟩⟩⟩⟩⟩⟩⟩⟩⟩⟩⟩⟩
theorem pw_11_ok : pw_11.all goodWord = true := by decide +kernel
set_option maxRecDepth 20000 in
theorem pw_12_in : ∀ w ∈ pw_12, w ∈ lw_tbl := List.forall_mem_cons.mpr ⟨List.mem_of_getElem? (i := 711) (by decide +kernel), List.forall_mem_cons.mpr ⟨List.mem_of_getElem? (i := 714) (by decide +kernel), List.forall_mem_cons.mpr ⟨List.mem_of_getElem? (i := 712) (by decide +kernel), List.forall_mem_cons.mpr ⟨List.mem_of_getElem? (i := 713) (by decide +kernel), List.forall_mem_cons.mpr ⟨List.mem_of_getElem? (i := 1053) (by decide +kernel), List.forall_mem_cons.mpr ⟨List.mem_of_getElem? (i := 235) (by decide +kernel), List.forall_mem_cons.mpr ⟨List.mem_of_getElem? (i := 236) (by decide +kernel), List.forall_mem_cons.mpr ⟨List.mem_of_getElem? (i := 237) (by decide +kernel), List.forall_mem_cons.mpr ⟨List.mem_of_getElem? (i := 238) (by decide +kernel), List.forall_mem_cons.mpr ⟨List.mem_of_getElem? (i := 805) (by decide +kernel), List.forall_mem_cons.mpr ⟨List.mem_of_getElem? (i := 806) (by decide +kernel), List.forall_mem_cons.mpr ⟨List.mem_of_getElem? (i := 807) (by decide +kernel), List.forall_mem_cons.mpr ⟨List.mem_of_getElem? (i := 808) (by decide +kernel), List.forall_mem_cons.mpr ⟨List.mem_of_getElem? (i := 248) (by decide +kernel), List.forall_mem_cons.mpr ⟨List.mem_of_getElem? (i := 249) (by decide +kernel), List.forall_mem_cons.mpr ⟨List.mem_of_getElem? (i := 250) (by decide +kernel), fun _ h => absurd h List.not_mem_nil⟩⟩⟩⟩⟩⟩⟩⟩⟩⟩⟩⟩⟩⟩⟩⟩
theorem pw_12_ok : pw_12.all goodWord = true := by decide +kernel
set_option maxRecDepth 20000 in
theorem pw_13_in : ∀ w ∈ pw_13, w ∈ lw_tbl := List.forall_mem_cons.mpr ⟨List.mem_of_getElem? (i := 251) (by decide +kernel), List.forall_mem_cons.mpr ⟨List.mem_of_getElem? (i := 813) (by decide +kernel), List.forall_mem_cons.mpr ⟨List.mem_of_getElem? (i := 814) (by decide +kernel), List.forall_mem_cons.mpr ⟨List.mem_of_getElem? (i := 815) (by decide +kernel), List.forall_mem_cons.mpr ⟨List.mem_of_getElem? (i := 816) (by decide +kernel), List.forall_mem_cons.mpr ⟨List.mem_of_getElem? (i := 260) (by decide +kernel), List.forall_mem_cons.mpr ⟨List.mem_of_getElem? (i := 261) (by decide +kernel), List.forall_mem_cons.mpr ⟨List.mem_of_getElem? (i := 262) (by decide +kernel), List.forall_mem_cons.mpr ⟨List.mem_of_getElem? (i := 263) (by decide +kernel), List.forall_mem_cons.mpr ⟨List.mem_of_getElem? (i := 817) (by decide +kernel), List.forall_mem_cons.mpr ⟨List.mem_of_getElem? (i := 818) (by decide +kernel), List.forall_mem_cons.mpr ⟨List.mem_of_getElem? (i := 819) (by decide +kernel), List.forall_mem_cons.mpr ⟨List.mem_of_getElem? (i := 820) (by decide +kernel), List.forall_mem_cons.mpr ⟨List.mem_of_getElem? (i := 271) (by decide +kernel), List.forall_mem_cons.mpr ⟨List.mem_of_getElem? (i := 272) (by decide +kernel), List.forall_mem_cons.mpr ⟨List.mem_of_getElem? (i := 273) (by decide +kernel), fun _ h => absurd h List.not_mem_nil⟩⟩⟩⟩⟩⟩⟩⟩⟩⟩⟩⟩⟩⟩⟩⟩
theorem pw_13_ok : pw_13.all goodWord = true := by decide +kernel
set_option maxRecDepth 20000 in
theorem pw_14_in : ∀ w ∈ pw_14, w ∈ lw_tbl := List.forall_mem_cons.mpr ⟨List.mem_of_getElem? (i := 274) (by decide +kernel), List.forall_mem_cons.mpr ⟨List.mem_of_getElem? (i := 821) (by decide +kernel), List.forall_mem_cons.mpr ⟨List.mem_of_getElem? (i := 822) (by decide +kernel), List.forall_mem_cons.mpr ⟨List.mem_of_getElem? (i := 823) (by decide +kernel), List.forall_mem_cons.mpr ⟨List.mem_of_getElem? (i := 824) (by decide +kernel), List.forall_mem_cons.mpr ⟨List.mem_of_getElem? (i := 546) (by decide +kernel), List.forall_mem_cons.mpr ⟨List.mem_of_getElem? (i := 547) (by decide +kernel), List.forall_mem_cons.mpr ⟨List.mem_of_getElem? (i := 548) (by decide +kernel), List.forall_mem_cons.mpr ⟨List.mem_of_getElem? (i := 549) (by decide +kernel), List.forall_mem_cons.mpr ⟨List.mem_of_getElem? (i := 969) (by decide +kernel), List.forall_mem_cons.mpr ⟨List.mem_of_getElem? (i := 970) (by decide +kernel), List.forall_mem_cons.mpr ⟨List.mem_of_getElem? (i := 971) (by decide +kernel), List.forall_mem_cons.mpr ⟨List.mem_of_getElem? (i := 972) (by decide +kernel), List.forall_mem_cons.mpr ⟨List.mem_of_getElem? (i := 550) (by decide +kernel), List.forall_mem_cons.mpr ⟨List.mem_of_getElem? (i := 551) (by decide +kernel), List.forall_mem_cons.mpr ⟨List.mem_of_getElem? (i := 552) (by decide +kernel), fun _ h => absurd h List.not_mem_nil⟩⟩⟩⟩⟩⟩⟩⟩⟩⟩⟩⟩⟩⟩⟩⟩
theorem pw_14_ok : pw_14.all goodWord = true := by decide +kernel
set_option maxRecDepth 20000 in
theorem pw_15_in : ∀ w ∈ pw_15, w ∈ lw_tbl := List.forall_mem_cons.mpr ⟨List.mem_of_getElem? (i := 553) (by decide +kernel), List.forall_mem_cons.mpr ⟨List.mem_of_getElem? (i := 973) (by decide +kernel), List.forall_mem_cons.mpr ⟨List.mem_of_getElem? (i := 974) (by decide +kernel), List.forall_mem_cons.mpr ⟨List.mem_of_getElem? (i := 975) (by decide +kernel), List.forall_mem_cons.mpr ⟨List.mem_of_getElem? (i := 976) (by decide +kernel), List.forall_mem_cons.mpr ⟨List.mem_of_getElem? (i := 572) (by decide +kernel), List.forall_mem_cons.mpr ⟨List.mem_of_getElem? (i := 573) (by decide +kernel), List.forall_mem_cons.mpr ⟨List.mem_of_getElem? (i := 574) (by decide +kernel), List.forall_mem_cons.mpr ⟨List.mem_of_getElem? (i := 575) (by decide +kernel), List.forall_mem_cons.mpr ⟨List.mem_of_getElem? (i := 985) (by decide +kernel), List.forall_mem_cons.mpr ⟨List.mem_of_getElem? (i := 986) (by decide +kernel), List.forall_mem_cons.mpr ⟨List.mem_of_getElem? (i := 987) (by decide +kernel), List.forall_mem_cons.mpr ⟨List.mem_of_getElem? (i := 988) (by decide +kernel), List.forall_mem_cons.mpr ⟨List.mem_of_getElem? (i := 580) (by decide +kernel), List.forall_mem_cons.mpr ⟨List.mem_of_getElem? (i := 581) (by decide +kernel), List.forall_mem_cons.mpr ⟨List.mem_of_getElem? (i := 582) (by decide +kernel), fun _ h => absurd h List.not_mem_nil⟩⟩⟩⟩⟩⟩⟩⟩⟩⟩⟩⟩⟩⟩⟩⟩
theorem pw_15_ok : pw_15.all goodWord = true := by decide +kernel
set_option maxRecDepth 20000 in
theorem pw_16_in : ∀ w ∈ pw_16, w ∈ lw_tbl := List.forall_mem_cons.mpr ⟨List.mem_of_getElem? (i := 583) (by decide +kernel), List.forall_mem_cons.mpr ⟨List.mem_of_getElem? (i := 989) (by decide +kernel), List.forall_mem_cons.mpr ⟨List.mem_of_getElem? (i := 990) (by decide +kernel), List.forall_mem_cons.mpr ⟨List.mem_of_getElem? (i := 991) (by decide +kernel), List.forall_mem_cons.mpr ⟨List.mem_of_getElem? (i := 992) (by decide +kernel), List.forall_mem_cons.mpr ⟨List.mem_of_getElem? (i := 585) (by decide +kernel), List.forall_mem_cons.mpr ⟨List.mem_of_getElem? (i := 586) (by decide +kernel), List.forall_mem_cons.mpr ⟨List.mem_of_getElem? (i := 587) (by decide +kernel), List.forall_mem_cons.mpr ⟨List.mem_of_getElem? (i := 588) (by decide +kernel), List.forall_mem_cons.mpr ⟨List.mem_of_getElem? (i := 993) (by decide +kernel), List.forall_mem_cons.mpr ⟨List.mem_of_getElem? (i := 994) (by decide +kernel), List.forall_mem_cons.mpr ⟨List.mem_of_getElem? (i := 995) (by decide +kernel), List.forall_mem_cons.mpr ⟨List.mem_of_getElem? (i := 996) (by decide +kernel), List.forall_mem_cons.mpr ⟨List.mem_of_getElem? (i := 599) (by decide +kernel), List.forall_mem_cons.mpr ⟨List.mem_of_getElem? (i := 600) (by decide +kernel), List.forall_mem_cons.mpr ⟨List.mem_of_getElem? (i := 601) (by decide +kernel), fun _ h => absurd h List.not_mem_nil⟩⟩⟩⟩⟩⟩⟩⟩⟩⟩⟩⟩⟩⟩⟩⟩
theorem pw_16_ok : pw_16.all goodWord = true := by decide +kernel
set_option maxRecDepth 20000 in
theorem pw_17_in : ∀ w ∈ pw_17, w ∈ lw_tbl := List.forall_mem_cons.mpr ⟨List.mem_of_getElem? (i := 602) (by decide +kernel), List.forall_mem_cons.mpr ⟨List.mem_of_getElem? (i := 1001) (by decide +kernel), List.forall_mem_cons.mpr ⟨List.mem_of_getElem? (i := 1002) (by decide +kernel), List.forall_mem_cons.mpr ⟨List.mem_of_getElem? (i := 1003) (by decide +kernel), List.forall_mem_cons.mpr ⟨List.mem_of_getElem? (i := 1004) (by decide +kernel), List.forall_mem_cons.mpr ⟨List.mem_of_getElem? (i := 616) (by decide +kernel), List.forall_mem_cons.mpr ⟨List.mem_of_getElem? (i := 617) (by decide +kernel), List.forall_mem_cons.mpr ⟨List.mem_of_getElem? (i := 618) (by decide +kernel), List.forall_mem_cons.mpr ⟨List.mem_of_getElem? (i := 619) (by decide +kernel), List.forall_mem_cons.mpr ⟨List.mem_of_getElem? (i := 1005) (by decide +kernel), List.forall_mem_cons.mpr ⟨List.mem_of_getElem? (i := 1006) (by decide +kernel), List.forall_mem_cons.mpr ⟨List.mem_of_getElem? (i := 1007) (by decide +kernel), List.forall_mem_cons.mpr ⟨List.mem_of_getElem? (i := 1008) (by decide +kernel), List.forall_mem_cons.mpr ⟨List.mem_of_getElem? (i := 626) (by decide +kernel), List.forall_mem_cons.mpr ⟨List.mem_of_getElem? (i := 627) (by decide +kernel), List.forall_mem_cons.mpr ⟨List.mem_of_getElem? (i := 628) (by decide +kernel), fun _ h => absurd h List.not_mem_nil⟩⟩⟩⟩⟩⟩⟩⟩⟩⟩⟩⟩⟩⟩⟩⟩
theorem pw_17_ok : pw_17.all goodWord = true := by decide +kernel
set_option maxRecDepth 20000 in
theorem pw_18_in : ∀ w ∈ pw_18, w ∈ lw_tbl := List.forall_mem_cons.mpr ⟨List.mem_of_getElem? (i := 629) (by decide +kernel), List.forall_mem_cons.mpr ⟨List.mem_of_getElem? (i := 1009) (by decide +kernel), List.forall_mem_cons.mpr ⟨List.mem_of_getElem? (i := 1010) (by decide +kernel), List.forall_mem_cons.mpr ⟨List.mem_of_getElem? (i := 1011) (by decide +kernel), List.forall_mem_cons.mpr ⟨List.mem_of_getElem? (i := 1012) (by decide +kernel), List.forall_mem_cons.mpr ⟨List.mem_of_getElem? (i := 631) (by decide +kernel), List.forall_mem_cons.mpr ⟨List.mem_of_getElem? (i := 632) (by decide +kernel), List.forall_mem_cons.mpr ⟨List.mem_of_getElem? (i := 633) (by decide +kernel), List.forall_mem_cons.mpr ⟨List.mem_of_getElem? (i := 634) (by decide +kernel), List.forall_mem_cons.mpr ⟨List.mem_of_getElem? (i := 1013) (by decide +kernel), List.forall_mem_cons.mpr ⟨List.mem_of_getElem? (i := 1014) (by decide +kernel), List.forall_mem_cons.mpr ⟨List.mem_of_getElem? (i := 1015) (by decide +kernel), List.forall_mem_cons.mpr ⟨List.mem_of_getElem? (i := 1016) (by decide +kernel), List.forall_mem_cons.mpr ⟨List.mem_of_getElem? (i := 636) (by decide +kernel), List.forall_mem_cons.mpr ⟨List.mem_of_getElem? (i := 637) (by decide +kernel), List.forall_mem_cons.mpr ⟨List.mem_of_getElem? (i := 638) (by decide +kernel), fun _ h => absurd h List.not_mem_nil⟩⟩⟩⟩⟩⟩⟩⟩⟩⟩⟩⟩⟩⟩⟩⟩
theorem pw_18_ok : pw_18.all goodWord = true := by decide +kernel
set_option maxRecDepth 20000 in
theorem pw_19_in : ∀ w ∈ pw_19, w ∈ lw_tbl := List.forall_mem_cons.mpr ⟨List.mem_of_getElem? (i := 639) (by decide +kernel), List.forall_mem_cons.mpr ⟨List.mem_of_getElem? (i := 1017) (by decide +kernel), List.forall_mem_cons.mpr ⟨List.mem_of_getElem? (i := 1018) (by decide +kernel), List.forall_mem_cons.mpr ⟨List.mem_of_getElem? (i := 1019) (by decide +kernel), List.forall_mem_cons.mpr ⟨List.mem_of_getElem? (i := 1020) (by decide +kernel), List.forall_mem_cons.mpr ⟨List.mem_of_getElem? (i := 692) (by decide +kernel), List.forall_mem_cons.mpr ⟨List.mem_of_getElem? (i := 693) (by decide +kernel), List.forall_mem_cons.mpr ⟨List.mem_of_getElem? (i := 694) (by decide +kernel), List.forall_mem_cons.mpr ⟨List.mem_of_getElem? (i := 695) (by decide +kernel), List.forall_mem_cons.mpr ⟨List.mem_of_getElem? (i := 1045) (by decide +kernel), List.forall_mem_cons.mpr ⟨List.mem_of_getElem? (i := 1046) (by decide +kernel), List.forall_mem_cons.mpr ⟨List.mem_of_getElem? (i := 1047) (by decide +kernel), List.forall_mem_cons.mpr ⟨List.mem_of_getElem? (i := 1048) (by decide +kernel), List.forall_mem_cons.mpr ⟨List.mem_of_getElem? (i := 701) (by decide +kernel), List.forall_mem_cons.mpr ⟨List.mem_of_getElem? (i := 702) (by decide +kernel), List.forall_mem_cons.mpr ⟨List.mem_of_getElem? (i := 703) (by decide +kernel), fun _ h => absurd h List.not_mem_nil⟩⟩⟩⟩⟩⟩⟩⟩⟩⟩⟩⟩⟩⟩⟩⟩
theorem pw_19_ok : pw_19.all goodWord = true := by decide +kernel
set_option maxRecDepth 20000 in
theorem pw_20_in : ∀ w ∈ pw_20, w ∈ lw_tbl := List.forall_mem_cons.mpr ⟨List.mem_of_getElem? (i := 704) (by decide +kernel), List.forall_mem_cons.mpr ⟨List.mem_of_getElem? (i := 1049) (by decide +kernel), List.forall_mem_cons.mpr ⟨List.mem_of_getElem? (i := 1050) (by decide +kernel), List.forall_mem_cons.mpr ⟨List.mem_of_getElem? (i := 1051) (by decide +kernel), List.forall_mem_cons.mpr ⟨List.mem_of_getElem? (i := 1052) (by decide +kernel), fun _ h => absurd h List.not_mem_nil⟩⟩⟩⟩⟩
theorem pw_20_ok : pw_20.all goodWord = true := by decide +kernel
set_option maxRecDepth 20000 in
theorem wsX00_g : GoodIn lw_tbl wsX00 := goodIn_r _ [96, 98] (by decide +kernel) (by decide +kernel)
set_option maxRecDepth 20000 in
theorem wsX10_g : GoodIn lw_tbl wsX10 := goodIn_r _ [158, 160, 162, 164, 166, 168] (by decide +kernel) (by decide +kernel)
set_option maxRecDepth 20000 in
theorem wsX20_g : GoodIn lw_tbl wsX20 := goodIn_r _ [184, 186, 188, 190, 192] (by decide +kernel) (by decide +kernel)
set_option maxRecDepth 20000 in
theorem wsX30_g : GoodIn lw_tbl wsX30 := goodIn_r _ [133, 135, 137, 139, 141] (by decide +kernel) (by decide +kernel)
set_option maxRecDepth 20000 in
theorem wsX40_g : GoodIn lw_tbl wsX40 := goodIn_r _ [120, 122, 124] (by decide +kernel) (by decide +kernel)
set_option maxRecDepth 20000 in
theorem wsX50_g : GoodIn lw_tbl wsX50 := goodIn_r _ [206, 208, 210] (by decide +kernel) (by decide +kernel)
set_option maxRecDepth 20000 in
theorem wsX60_g : GoodIn lw_tbl wsX60 := goodIn_r _ [220, 222, 224, 226, 228, 230, 232] (by decide +kernel) (by decide +kernel)
set_option maxRecDepth 20000 in
theorem wsX70_g : GoodIn lw_tbl wsX70 := goodIn_r _ [745, 747, 749, 751, 753, 755, 757, 759, 761, 763, 765, 767, 769, 771, 773, 775, 777, 779, 781, 783, 785, 787, 789, 791, 793, 795, 797, 799, 801] (by decide +kernel) (by decide +kernel)
theorem pwAll_in : ∀ w ∈ pwAll, w ∈ lw_tbl := by
  show ∀ w ∈ pw_0 ++ (pw_1 ++ (pw_2 ++ (pw_3 ++ (pw_4 ++ (pw_5 ++ (pw_6 ++ (pw_7 ++ (pw_8 ++ (pw_9 ++ (pw_10 ++ (pw_11 ++ (pw_12 ++ (pw_13 ++ (pw_14 ++ (pw_15 ++ (pw_16 ++ (pw_17 ++ (pw_18 ++ (pw_19 ++ (pw_20 ++ (wsX00 ++ (wsX10 ++ (wsX20 ++ (wsX30 ++ (wsX40 ++ (wsX50 ++ (wsX60 ++ (wsX70)))))))))))))))))))))))))))), w ∈ lw_tbl
  exact List.forall_mem_append.mpr ⟨pw_0_in, List.forall_mem_append.mpr ⟨pw_1_in, List.forall_mem_append.mpr ⟨pw_2_in, List.forall_mem_append.mpr ⟨pw_3_in, List.forall_mem_append.mpr ⟨pw_4_in, List.forall_mem_append.mpr ⟨pw_5_in, List.forall_mem_append.mpr ⟨pw_6_in, List.forall_mem_append.mpr ⟨pw_7_in, List.forall_mem_append.mpr ⟨pw_8_in, List.forall_mem_append.mpr ⟨pw_9_in, List.forall_mem_append.mpr ⟨pw_10_in, List.forall_mem_append.mpr ⟨pw_11_in, List.forall_mem_append.mpr ⟨pw_12_in, List.forall_mem_append.mpr ⟨pw_13_in, List.forall_mem_append.mpr ⟨pw_14_in, List.forall_mem_append.mpr ⟨pw_15_in, List.forall_mem_append.mpr ⟨pw_16_in, List.forall_mem_append.mpr ⟨pw_17_in, List.forall_mem_append.mpr ⟨pw_18_in, List.forall_mem_append.mpr ⟨pw_19_in, List.forall_mem_append.mpr ⟨pw_20_in, List.forall_mem_append.mpr ⟨(fun w h => (wsX00_g w h).1), List.forall_mem_append.mpr ⟨(fun w h => (wsX10_g w h).1), List.forall_mem_append.mpr ⟨(fun w h => (wsX20_g w h).1), List.forall_mem_append.mpr ⟨(fun w h => (wsX30_g w h).1), List.forall_mem_append.mpr ⟨(fun w h => (wsX40_g w h).1), List.forall_mem_append.mpr ⟨(fun w h => (wsX50_g w h).1), List.forall_mem_append.mpr ⟨(fun w h => (wsX60_g w h).1), (fun w h => (wsX70_g w h).1)⟩⟩⟩⟩⟩⟩⟩⟩⟩⟩⟩⟩⟩⟩⟩⟩⟩⟩⟩⟩⟩⟩⟩⟩⟩⟩⟩⟩
theorem pwAll_good : ∀ w ∈ pwAll, ((w.onTables && w.keeps) = true ∨ ∃ ty, w = .arrayClass ty) := by
  show ∀ w ∈ pw_0 ++ (pw_1 ++ (pw_2 ++ (pw_3 ++ (pw_4 ++ (pw_5 ++ (pw_6 ++ (pw_7 ++ (pw_8 ++ (pw_9 ++ (pw_10 ++ (pw_11 ++ (pw_12 ++ (pw_13 ++ (pw_14 ++ (pw_15 ++ (pw_16 ++ (pw_17 ++ (pw_18 ++ (pw_19 ++ (pw_20 ++ (wsX00 ++ (wsX10 ++ (wsX20 ++ (wsX30 ++ (wsX40 ++ (wsX50 ++ (wsX60 ++ (wsX70)))))))))))))))))))))))))))), ((w.onTables && w.keeps) = true ∨ ∃ ty, w = .arrayClass ty)
  exact List.forall_mem_append.mpr ⟨(fun w h => good_of_word (List.all_eq_true.mp pw_0_ok w h)), List.forall_mem_append.mpr ⟨(fun w h => good_of_word (List.all_eq_true.mp pw_1_ok w h)), List.forall_mem_append.mpr ⟨(fun w h => good_of_word (List.all_eq_true.mp pw_2_ok w h)), List.forall_mem_append.mpr ⟨(fun w h => good_of_word (List.all_eq_true.mp pw_3_ok w h)), List.forall_mem_append.mpr ⟨(fun w h => good_of_word (List.all_eq_true.mp pw_4_ok w h)), List.forall_mem_append.mpr ⟨(fun w h => good_of_word (List.all_eq_true.mp pw_5_ok w h)), List.forall_mem_append.mpr ⟨(fun w h => good_of_word (List.all_eq_true.mp pw_6_ok w h)), List.forall_mem_append.mpr ⟨(fun w h => good_of_word (List.all_eq_true.mp pw_7_ok w h)), List.forall_mem_append.mpr ⟨(fun w h => good_of_word (List.all_eq_true.mp pw_8_ok w h)), List.forall_mem_append.mpr ⟨(fun w h => good_of_word (List.all_eq_true.mp pw_9_ok w h)), List.forall_mem_append.mpr ⟨(fun w h => good_of_word (List.all_eq_true.mp pw_10_ok w h)), List.forall_mem_append.mpr ⟨(fun w h => good_of_word (List.all_eq_true.mp pw_11_ok w h)), List.forall_mem_append.mpr ⟨(fun w h => good_of_word (List.all_eq_true.mp pw_12_ok w h)), List.forall_mem_append.mpr ⟨(fun w h => good_of_word (List.all_eq_true.mp pw_13_ok w h)), List.forall_mem_append.mpr ⟨(fun w h => good_of_word (List.all_eq_true.mp pw_14_ok w h)), List.forall_mem_append.mpr ⟨(fun w h => good_of_word (List.all_eq_true.mp pw_15_ok w h)), List.forall_mem_append.mpr ⟨(fun w h => good_of_word (List.all_eq_true.mp pw_16_ok w h)), List.forall_mem_append.mpr ⟨(fun w h => good_of_word (List.all_eq_true.mp pw_17_ok w h)), List.forall_mem_append.mpr ⟨(fun w h => good_of_word (List.all_eq_true.mp pw_18_ok w h)), List.forall_mem_append.mpr ⟨(fun w h => good_of_word (List.all_eq_true.mp pw_19_ok w h)), List.forall_mem_append.mpr ⟨(fun w h => good_of_word (List.all_eq_true.mp pw_20_ok w h)), List.forall_mem_append.mpr ⟨(fun w h => (wsX00_g w h).2), List.forall_mem_append.mpr ⟨(fun w h => (wsX10_g w h).2), List.forall_mem_append.mpr ⟨(fun w h => (wsX20_g w h).2), List.forall_mem_append.mpr ⟨(fun w h => (wsX30_g w h).2), List.forall_mem_append.mpr ⟨(fun w h => (wsX40_g w h).2), List.forall_mem_append.mpr ⟨(fun w h => (wsX50_g w h).2), List.forall_mem_append.mpr ⟨(fun w h => (wsX60_g w h).2), (fun w h => (wsX70_g w h).2)⟩⟩⟩⟩⟩⟩⟩⟩⟩⟩⟩⟩⟩⟩⟩⟩⟩⟩⟩⟩⟩⟩⟩⟩⟩⟩⟩⟩
theorem pf_gI {y : MethodName} {cc : ByteArray} {n : Nat} {ret : Option FieldType} (h5 : Cond.code y cc n ret ∈ pwAll) : GoodIn pwAll (Cond.code y cc n ret :: pwAll) := by
  intro w hw
  have hm : w ∈ pwAll := (List.mem_cons.mp hw).elim (fun q => q ▸ h5) id
  exact ⟨hm, pwAll_good w hm⟩
theorem pf_gV {own C : String} {idx : Nat} {y : MethodName} {cc : ByteArray} {n : Nat} {ret : Option FieldType} (h1 : Cond.methodLink own idx y ∈ pwAll) (h2 : Cond.instanceMethod y ∈ pwAll) (h3 : Cond.selects C y y ∈ pwAll) (h4 : Cond.initialized C ∈ pwAll) (h5 : Cond.code y cc n ret ∈ pwAll) : GoodIn pwAll (wsV own idx C y (Cond.code y cc n ret :: pwAll)) := by
  intro w hw
  have hm : w ∈ pwAll := (List.mem_append.mp hw).elim (fun q => (List.forall_mem_cons.mpr ⟨h1, List.forall_mem_cons.mpr ⟨h2, List.forall_mem_cons.mpr ⟨h3, List.forall_mem_cons.mpr ⟨h4, fun _ h => absurd h List.not_mem_nil⟩⟩⟩⟩ : ∀ v ∈ ([Cond.methodLink own idx y, Cond.instanceMethod y, Cond.selects C y y, Cond.initialized C] : List Cond), v ∈ pwAll) w q) (fun q => (List.mem_cons.mp q).elim (fun q => q ▸ h5) id)
  exact ⟨hm, pwAll_good w hm⟩
theorem pf_gS {own : String} {idx : Nat} {y : MethodName} {cc : ByteArray} {n : Nat} {ret : Option FieldType} (h1 : Cond.methodLink own idx y ∈ pwAll) (h2 : Cond.static y ∈ pwAll) (h4 : Cond.initialized y.cls ∈ pwAll) (h5 : Cond.code y cc n ret ∈ pwAll) : GoodIn pwAll (va_wsS own idx y (Cond.code y cc n ret :: pwAll)) := by
  intro w hw
  have hm : w ∈ pwAll := (List.mem_append.mp hw).elim (fun q => (List.forall_mem_cons.mpr ⟨h1, List.forall_mem_cons.mpr ⟨h2, List.forall_mem_cons.mpr ⟨h4, fun _ h => absurd h List.not_mem_nil⟩⟩⟩ : ∀ v ∈ ([Cond.methodLink own idx y, Cond.static y, Cond.initialized y.cls] : List Cond), v ∈ pwAll) w q) (fun q => (List.mem_cons.mp q).elim (fun q => q ▸ h5) id)
  exact ⟨hm, pwAll_good w hm⟩
theorem gg_RL_15 : GoodIn pwAll (wsV RL 15 RX6 yX6_feed pwX6_feed) := pf_gV k_197 k_198 k_199 k_144 k_200
theorem gg_RL_19 : GoodIn pwAll (wsV RL 19 RX7 yX7_feed pwX7_feed) := pf_gV k_201 k_202 k_203 k_174 k_204
theorem gg_RL_20 : GoodIn pwAll (wsV RL 20 RX6 yX6_set pwX6_set) := pf_gV k_205 k_206 k_207 k_144 k_208
theorem gg_RL_24 : GoodIn pwAll (wsV RL 24 RX7 yX7_set pwX7_set) := pf_gV k_209 k_210 k_211 k_174 k_212
theorem gg_RL_25 : GoodIn pwAll (wsV RL 25 RX6 yX6_cut pwX6_cut) := pf_gV k_213 k_214 k_215 k_144 k_216
theorem gg_RL_29 : GoodIn pwAll (wsV RL 29 RX7 yX7_cut pwX7_cut) := pf_gV k_217 k_218 k_219 k_174 k_220
theorem gg_RL_30 : GoodIn pwAll (wsV RL 30 RX6 yX6_read pwX6_read) := pf_gV k_221 k_222 k_223 k_144 k_224
theorem gg_RL_34 : GoodIn pwAll (wsV RL 34 RX7 yX7_read pwX7_read) := pf_gV k_225 k_226 k_227 k_174 k_228
theorem gg_RL_35 : GoodIn pwAll (wsV RL 35 RX6 yX6_where pwX6_where) := pf_gV k_229 k_230 k_231 k_144 k_232
theorem gg_RL_38 : GoodIn pwAll (wsV RL 38 RX7 yX7_where pwX7_where) := pf_gV k_233 k_234 k_235 k_174 k_236
theorem gg_RL_39 : GoodIn pwAll (wsV RL 39 RX6 yX6_count pwX6_count) := pf_gV k_237 k_238 k_239 k_144 k_240
theorem gg_RL_42 : GoodIn pwAll (wsV RL 42 RX7 yX7_count pwX7_count) := pf_gV k_241 k_242 k_243 k_174 k_244
theorem gg_RL_43 : GoodIn pwAll (wsV RL 43 RX6 yX6_group pwX6_group) := pf_gV k_245 k_246 k_247 k_144 k_248
theorem gg_RL_46 : GoodIn pwAll (wsV RL 46 RX7 yX7_group pwX7_group) := pf_gV k_249 k_250 k_251 k_174 k_252
theorem gg_RL_47 : GoodIn pwAll (wsV RL 47 RX6 yX6_setOf pwX6_setOf) := pf_gV k_253 k_254 k_255 k_144 k_256
theorem gg_RL_50 : GoodIn pwAll (wsV RL 50 RX7 yX7_setOf pwX7_setOf) := pf_gV k_257 k_258 k_259 k_174 k_260
theorem gg_RL_51 : GoodIn pwAll (wsV RL 51 RX6 yX6_fault pwX6_fault) := pf_gV k_261 k_262 k_263 k_144 k_264
theorem gg_RL_55 : GoodIn pwAll (wsV RL 55 RX7 yX7_fault pwX7_fault) := pf_gV k_265 k_266 k_267 k_174 k_268
theorem gg_RL_56 : GoodIn pwAll (wsV RL 56 RX6 yX6_level pwX6_level) := pf_gV k_269 k_270 k_271 k_144 k_272
theorem gg_RL_59 : GoodIn pwAll (wsV RL 59 RX7 yX7_level pwX7_level) := pf_gV k_273 k_274 k_275 k_174 k_276
theorem gg_RL_60 : GoodIn pwAll (wsV RL 60 RX6 yX6_claim pwX6_claim) := pf_gV k_277 k_278 k_279 k_144 k_280
theorem gg_RL_63 : GoodIn pwAll (wsV RL 63 RX7 yX7_claim pwX7_claim) := pf_gV k_281 k_282 k_283 k_174 k_284
theorem gg_RL_64 : GoodIn pwAll (wsV RL 64 RX6 yX6_size pwX6_size) := pf_gV k_285 k_286 k_287 k_144 k_288
theorem gg_RL_67 : GoodIn pwAll (wsV RL 67 RX7 yX7_size pwX7_size) := pf_gV k_289 k_290 k_291 k_174 k_292
theorem gg_RL_68 : GoodIn pwAll (wsV RL 68 RX6 yX6_byteOf pwX6_byteOf) := pf_gV k_293 k_294 k_295 k_144 k_296
theorem gg_RL_71 : GoodIn pwAll (wsV RL 71 RX7 yX7_byteOf pwX7_byteOf) := pf_gV k_297 k_298 k_299 k_174 k_300
theorem gg_RL_72 : GoodIn pwAll (wsV RL 72 RX6 yX6_answer pwX6_answer) := pf_gV k_301 k_302 k_303 k_144 k_304
theorem gg_RL_75 : GoodIn pwAll (wsV RL 75 RX7 yX7_answer pwX7_answer) := pf_gV k_305 k_306 k_307 k_174 k_308
theorem gg_RL_76 : GoodIn pwAll (wsV RL 76 RX6 yX6_answered pwX6_answered) := pf_gV k_309 k_310 k_311 k_144 k_312
theorem gg_RL_79 : GoodIn pwAll (wsV RL 79 RX7 yX7_answered pwX7_answered) := pf_gV k_313 k_314 k_315 k_174 k_316
theorem gg_RL_80 : GoodIn pwAll (wsV RL 80 RX6 yX6_turn pwX6_turn) := pf_gV k_317 k_318 k_319 k_144 k_320
theorem gg_RL_83 : GoodIn pwAll (wsV RL 83 RX7 yX7_turn pwX7_turn) := pf_gV k_321 k_322 k_323 k_174 k_324
theorem gg_RX3_39 : GoodIn pwAll (wsV RX3 39 RX0 yX0_become pwX0_become) := pf_gV k_94 k_95 k_96 k_19 k_97
theorem gg_RX3_43 : GoodIn pwAll (wsV RX3 43 RX0 yX0_length pwX0_length) := pf_gV k_110 k_111 k_112 k_19 k_113
theorem gg_RX3_47 : GoodIn pwAll (wsV RX3 47 RX0 yX0_at pwX0_at) := pf_gV k_98 k_99 k_100 k_19 k_101
theorem gg_RX3_55 : GoodIn pwAll (wsV RX3 55 RX3 yX3_splitter pwX3_splitter) := pf_gV k_102 k_103 k_104 k_63 k_105
theorem gg_RX3_58 : GoodIn pwAll (wsV RX3 58 RX3 yX3_closer pwX3_closer) := pf_gV k_106 k_107 k_108 k_63 k_109
theorem gg_RX5_28 : GoodIn pwAll (wsV RX5 28 RX0 yX0_length pwX0_length) := pf_gV k_115 k_111 k_112 k_19 k_113
theorem gg_RX5_32 : GoodIn pwAll (wsV RX5 32 RX0 yX0_at pwX0_at) := pf_gV k_114 k_99 k_100 k_19 k_101
theorem gg_RX6_103 : GoodIn pwAll (wsV RX6 103 RX5 yX5_length pwX5_length) := pf_gV k_121 k_122 k_123 k_84 k_124
theorem gg_RX6_169 : GoodIn pwAll (wsV RX6 169 RX5 yX5_at pwX5_at) := pf_gV k_125 k_126 k_127 k_84 k_128
theorem gg_RX6_58 : GoodIn pwAll (wsV RX6 58 RX0 yX0_length pwX0_length) := pf_gV k_116 k_111 k_112 k_19 k_113
theorem gg_RX6_64 : GoodIn pwAll (wsV RX6 64 RX0 yX0_append pwX0_append) := pf_gV k_147 k_148 k_149 k_19 k_150
theorem gg_RX6_76 : GoodIn pwAll (wsV RX6 76 RX0 yX0_shorten pwX0_shorten) := pf_gV k_117 k_118 k_119 k_19 k_120
theorem gg_RX6_79 : GoodIn pwAll (wsV RX6 79 RX3 yX3_take pwX3_take) := pf_gV k_129 k_130 k_131 k_63 k_132
theorem gg_RX6_83 : GoodIn pwAll (wsV RX6 83 RX1 yX1_clear pwX1_clear) := pf_gV k_133 k_134 k_135 k_70 k_136
theorem gg_RX6_86 : GoodIn pwAll (wsV RX6 86 RX3 yX3_opens pwX3_opens) := pf_gV k_137 k_138 k_139 k_63 k_140
theorem gg_RX6_93 : GoodIn pwAll (wsV RX6 93 RX6 yX6_tell pwX6_tell) := pf_gV k_141 k_142 k_143 k_144 k_145
theorem gg_RX7_147 : GoodIn pwAll (wsV RX7 147 RX7 yX7_isOpening pwX7_isOpening) := pf_gV k_177 k_178 k_179 k_174 k_180
theorem gg_RX7_151 : GoodIn pwAll (wsV RX7 151 RX7 yX7_found pwX7_found) := pf_gV k_181 k_182 k_183 k_174 k_184
theorem gg_RX7_63 : GoodIn pwAll (va_wsS RX7 63 yX7_in pwX7_in) := pf_gS k_172 k_173 k_174 k_175
theorem gg_i_X0_init : GoodIn pwAll (pwX0_init) := pf_gI k_20
theorem gg_i_X1_init : GoodIn pwAll (pwX1_init) := pf_gI k_71
theorem gg_i_X2_init : GoodIn pwAll (pwX2_init) := pf_gI k_78
theorem gg_i_X3_init : GoodIn pwAll (pwX3_init) := pf_gI k_64
theorem gg_i_X4_init : GoodIn pwAll (pwX4_init) := pf_gI k_27
theorem gg_i_X5_init : GoodIn pwAll (pwX5_init) := pf_gI k_85
theorem gg_i_X6_init : GoodIn pwAll (pwX6_init) := pf_gI k_188
theorem gg_i_X7_init : GoodIn pwAll (pwX7_init) := pf_gI k_193
end
section
theorem dX0_init_0 : decode cX0_init 0 = .ok (.aload_n 0, 1) := by decide +kernel
theorem dX0_init_1 : decode cX0_init 1 = .ok (.invokespecial 3, 3) := by decide +kernel
theorem dX0_init_4 : decode cX0_init 4 = .ok (.aload_n 0, 1) := by decide +kernel
theorem dX0_init_5 : decode cX0_init 5 = .ok (.iload_n 1, 1) := by decide +kernel
theorem dX0_init_6 : decode cX0_init 6 = .ok (.iconst 0, 1) := by decide +kernel
theorem dX0_init_7 : decode cX0_init 7 = .ok (.invokestatic 9, 3) := by decide +kernel
theorem dX0_init_10 : decode cX0_init 10 = .ok (.newarray .byte, 2) := by decide +kernel
theorem dX0_init_12 : decode cX0_init 12 = .ok (.putfield 15, 3) := by decide +kernel
theorem dX0_init_15 : decode cX0_init 15 = .ok (.aload_n 0, 1) := by decide +kernel
theorem dX0_init_16 : decode cX0_init 16 = .ok (.iconst 0, 1) := by decide +kernel
theorem dX0_init_17 : decode cX0_init 17 = .ok (.putfield 21, 3) := by decide +kernel
theorem dX0_init_20 : decode cX0_init 20 = .ok (.return_, 1) := by decide +kernel
theorem dX0_length_0 : decode cX0_length 0 = .ok (.aload_n 0, 1) := by decide +kernel
theorem dX0_length_1 : decode cX0_length 1 = .ok (.getfield 21, 3) := by decide +kernel
theorem dX0_length_4 : decode cX0_length 4 = .ok (.ireturn, 1) := by decide +kernel
theorem dX0_at_0 : decode cX0_at 0 = .ok (.iload_n 1, 1) := by decide +kernel
theorem dX0_at_1 : decode cX0_at 1 = .ok (.ifCond .lt 20, 3) := by decide +kernel
theorem dX0_at_4 : decode cX0_at 4 = .ok (.iload_n 1, 1) := by decide +kernel
theorem dX0_at_5 : decode cX0_at 5 = .ok (.aload_n 0, 1) := by decide +kernel
theorem dX0_at_6 : decode cX0_at 6 = .ok (.getfield 21, 3) := by decide +kernel
theorem dX0_at_9 : decode cX0_at 9 = .ok (.if_icmp .ge 12, 3) := by decide +kernel
theorem dX0_at_21 : decode cX0_at 21 = .ok (.iconst (-1), 1) := by decide +kernel
theorem dX0_at_22 : decode cX0_at 22 = .ok (.goto 13, 3) := by decide +kernel
theorem dX0_at_35 : decode cX0_at 35 = .ok (.ireturn, 1) := by decide +kernel
theorem dX0_append_0 : decode cX0_append 0 = .ok (.aload_n 0, 1) := by decide +kernel
theorem dX0_append_1 : decode cX0_append 1 = .ok (.getfield 21, 3) := by decide +kernel
theorem dX0_append_4 : decode cX0_append 4 = .ok (.ifCond .lt 15, 3) := by decide +kernel
theorem dX0_append_7 : decode cX0_append 7 = .ok (.aload_n 0, 1) := by decide +kernel
theorem dX0_append_8 : decode cX0_append 8 = .ok (.getfield 21, 3) := by decide +kernel
theorem dX0_append_11 : decode cX0_append 11 = .ok (.aload_n 0, 1) := by decide +kernel
theorem dX0_append_12 : decode cX0_append 12 = .ok (.getfield 15, 3) := by decide +kernel
theorem dX0_append_15 : decode cX0_append 15 = .ok (.arraylength, 1) := by decide +kernel
theorem dX0_append_16 : decode cX0_append 16 = .ok (.if_icmp .lt 5, 3) := by decide +kernel
theorem dX0_append_21 : decode cX0_append 21 = .ok (.aload_n 0, 1) := by decide +kernel
theorem dX0_append_22 : decode cX0_append 22 = .ok (.getfield 15, 3) := by decide +kernel
theorem dX0_append_25 : decode cX0_append 25 = .ok (.aload_n 0, 1) := by decide +kernel
theorem dX0_append_26 : decode cX0_append 26 = .ok (.getfield 21, 3) := by decide +kernel
theorem dX0_append_29 : decode cX0_append 29 = .ok (.iload_n 1, 1) := by decide +kernel
theorem dX0_append_30 : decode cX0_append 30 = .ok (.i2b, 1) := by decide +kernel
theorem dX0_append_31 : decode cX0_append 31 = .ok (.bastore, 1) := by decide +kernel
theorem dX0_append_32 : decode cX0_append 32 = .ok (.aload_n 0, 1) := by decide +kernel
theorem dX0_append_33 : decode cX0_append 33 = .ok (.dup, 1) := by decide +kernel
theorem dX0_append_34 : decode cX0_append 34 = .ok (.getfield 21, 3) := by decide +kernel
theorem dX0_append_37 : decode cX0_append 37 = .ok (.iconst 1, 1) := by decide +kernel
theorem dX0_append_38 : decode cX0_append 38 = .ok (.iadd, 1) := by decide +kernel
theorem dX0_append_39 : decode cX0_append 39 = .ok (.putfield 21, 3) := by decide +kernel
theorem dX0_append_42 : decode cX0_append 42 = .ok (.iconst 1, 1) := by decide +kernel
theorem dX0_append_43 : decode cX0_append 43 = .ok (.ireturn, 1) := by decide +kernel
theorem dX0_shorten_0 : decode cX0_shorten 0 = .ok (.aload_n 0, 1) := by decide +kernel
theorem dX0_shorten_1 : decode cX0_shorten 1 = .ok (.iconst 0, 1) := by decide +kernel
theorem dX0_shorten_2 : decode cX0_shorten 2 = .ok (.iload_n 1, 1) := by decide +kernel
theorem dX0_shorten_3 : decode cX0_shorten 3 = .ok (.aload_n 0, 1) := by decide +kernel
theorem dX0_shorten_4 : decode cX0_shorten 4 = .ok (.getfield 21, 3) := by decide +kernel
theorem dX0_shorten_7 : decode cX0_shorten 7 = .ok (.invokestatic 25, 3) := by decide +kernel
theorem dX0_shorten_10 : decode cX0_shorten 10 = .ok (.invokestatic 9, 3) := by decide +kernel
theorem dX0_shorten_13 : decode cX0_shorten 13 = .ok (.putfield 21, 3) := by decide +kernel
theorem dX0_shorten_16 : decode cX0_shorten 16 = .ok (.return_, 1) := by decide +kernel
theorem dX0_become_0 : decode cX0_become 0 = .ok (.aload_n 0, 1) := by decide +kernel
theorem dX0_become_1 : decode cX0_become 1 = .ok (.iconst 0, 1) := by decide +kernel
theorem dX0_become_2 : decode cX0_become 2 = .ok (.putfield 21, 3) := by decide +kernel
theorem dX0_become_5 : decode cX0_become 5 = .ok (.iconst 0, 1) := by decide +kernel
theorem dX0_become_6 : decode cX0_become 6 = .ok (.istore_n 2, 1) := by decide +kernel
theorem dX0_become_7 : decode cX0_become 7 = .ok (.iload_n 2, 1) := by decide +kernel
theorem dX0_become_8 : decode cX0_become 8 = .ok (.aload_n 1, 1) := by decide +kernel
theorem dX0_become_9 : decode cX0_become 9 = .ok (.getfield 21, 3) := by decide +kernel
theorem dX0_become_12 : decode cX0_become 12 = .ok (.if_icmp .ge 19, 3) := by decide +kernel
theorem dX0_become_31 : decode cX0_become 31 = .ok (.return_, 1) := by decide +kernel
theorem dX1_init_0 : decode cX1_init 0 = .ok (.aload_n 0, 1) := by decide +kernel
theorem dX1_init_1 : decode cX1_init 1 = .ok (.invokespecial 3, 3) := by decide +kernel
theorem dX1_init_4 : decode cX1_init 4 = .ok (.aload_n 0, 1) := by decide +kernel
theorem dX1_init_5 : decode cX1_init 5 = .ok (.aload_n 1, 1) := by decide +kernel
theorem dX1_init_6 : decode cX1_init 6 = .ok (.putfield 9, 3) := by decide +kernel
theorem dX1_init_9 : decode cX1_init 9 = .ok (.aload_n 0, 1) := by decide +kernel
theorem dX1_init_10 : decode cX1_init 10 = .ok (.new 15, 3) := by decide +kernel
theorem dX1_init_13 : decode cX1_init 13 = .ok (.dup, 1) := by decide +kernel
theorem dX1_init_14 : decode cX1_init 14 = .ok (.bipush 60, 2) := by decide +kernel
theorem dX1_init_16 : decode cX1_init 16 = .ok (.iconst 5, 1) := by decide +kernel
theorem dX1_init_17 : decode cX1_init 17 = .ok (.invokespecial 17, 3) := by decide +kernel
theorem dX1_init_20 : decode cX1_init 20 = .ok (.putfield 20, 3) := by decide +kernel
theorem dX1_init_23 : decode cX1_init 23 = .ok (.aload_n 0, 1) := by decide +kernel
theorem dX1_init_24 : decode cX1_init 24 = .ok (.new 15, 3) := by decide +kernel
theorem dX1_init_27 : decode cX1_init 27 = .ok (.dup, 1) := by decide +kernel
theorem dX1_init_28 : decode cX1_init 28 = .ok (.bipush 24, 2) := by decide +kernel
theorem dX1_init_30 : decode cX1_init 30 = .ok (.bipush 7, 2) := by decide +kernel
theorem dX1_init_32 : decode cX1_init 32 = .ok (.invokespecial 17, 3) := by decide +kernel
theorem dX1_init_35 : decode cX1_init 35 = .ok (.putfield 24, 3) := by decide +kernel
theorem dX1_init_38 : decode cX1_init 38 = .ok (.aload_n 0, 1) := by decide +kernel
theorem dX1_init_39 : decode cX1_init 39 = .ok (.iconst 0, 1) := by decide +kernel
theorem dX1_init_40 : decode cX1_init 40 = .ok (.putfield 27, 3) := by decide +kernel
theorem dX1_init_43 : decode cX1_init 43 = .ok (.aload_n 0, 1) := by decide +kernel
theorem dX1_init_44 : decode cX1_init 44 = .ok (.iconst 0, 1) := by decide +kernel
theorem dX1_init_45 : decode cX1_init 45 = .ok (.putfield 31, 3) := by decide +kernel
theorem dX1_init_48 : decode cX1_init 48 = .ok (.aload_n 0, 1) := by decide +kernel
theorem dX1_init_49 : decode cX1_init 49 = .ok (.iconst 0, 1) := by decide +kernel
theorem dX1_init_50 : decode cX1_init 50 = .ok (.putfield 34, 3) := by decide +kernel
theorem dX1_init_53 : decode cX1_init 53 = .ok (.return_, 1) := by decide +kernel
theorem dX1_clear_0 : decode cX1_clear 0 = .ok (.aload_n 0, 1) := by decide +kernel
theorem dX1_clear_1 : decode cX1_clear 1 = .ok (.iconst 0, 1) := by decide +kernel
theorem dX1_clear_2 : decode cX1_clear 2 = .ok (.putfield 27, 3) := by decide +kernel
theorem dX1_clear_5 : decode cX1_clear 5 = .ok (.aload_n 0, 1) := by decide +kernel
theorem dX1_clear_6 : decode cX1_clear 6 = .ok (.iconst 0, 1) := by decide +kernel
theorem dX1_clear_7 : decode cX1_clear 7 = .ok (.putfield 31, 3) := by decide +kernel
theorem dX1_clear_10 : decode cX1_clear 10 = .ok (.aload_n 0, 1) := by decide +kernel
theorem dX1_clear_11 : decode cX1_clear 11 = .ok (.iconst 0, 1) := by decide +kernel
theorem dX1_clear_12 : decode cX1_clear 12 = .ok (.putfield 34, 3) := by decide +kernel
theorem dX1_clear_15 : decode cX1_clear 15 = .ok (.return_, 1) := by decide +kernel
theorem dX2_init_0 : decode cX2_init 0 = .ok (.aload_n 0, 1) := by decide +kernel
theorem dX2_init_1 : decode cX2_init 1 = .ok (.invokespecial 3, 3) := by decide +kernel
theorem dX2_init_4 : decode cX2_init 4 = .ok (.aload_n 0, 1) := by decide +kernel
theorem dX2_init_5 : decode cX2_init 5 = .ok (.aload_n 1, 1) := by decide +kernel
theorem dX2_init_6 : decode cX2_init 6 = .ok (.putfield 9, 3) := by decide +kernel
theorem dX2_init_9 : decode cX2_init 9 = .ok (.aload_n 0, 1) := by decide +kernel
theorem dX2_init_10 : decode cX2_init 10 = .ok (.aload_n 2, 1) := by decide +kernel
theorem dX2_init_11 : decode cX2_init 11 = .ok (.putfield 15, 3) := by decide +kernel
theorem dX2_init_14 : decode cX2_init 14 = .ok (.aload_n 0, 1) := by decide +kernel
theorem dX2_init_15 : decode cX2_init 15 = .ok (.new 19, 3) := by decide +kernel
theorem dX2_init_18 : decode cX2_init 18 = .ok (.dup, 1) := by decide +kernel
theorem dX2_init_19 : decode cX2_init 19 = .ok (.bipush 120, 2) := by decide +kernel
theorem dX2_init_21 : decode cX2_init 21 = .ok (.iconst 4, 1) := by decide +kernel
theorem dX2_init_22 : decode cX2_init 22 = .ok (.invokespecial 21, 3) := by decide +kernel
theorem dX2_init_25 : decode cX2_init 25 = .ok (.putfield 24, 3) := by decide +kernel
theorem dX2_init_28 : decode cX2_init 28 = .ok (.aload_n 0, 1) := by decide +kernel
theorem dX2_init_29 : decode cX2_init 29 = .ok (.iconst 0, 1) := by decide +kernel
theorem dX2_init_30 : decode cX2_init 30 = .ok (.putfield 28, 3) := by decide +kernel
theorem dX2_init_33 : decode cX2_init 33 = .ok (.aload_n 0, 1) := by decide +kernel
theorem dX2_init_34 : decode cX2_init 34 = .ok (.iconst 0, 1) := by decide +kernel
theorem dX2_init_35 : decode cX2_init 35 = .ok (.putfield 32, 3) := by decide +kernel
theorem dX2_init_38 : decode cX2_init 38 = .ok (.return_, 1) := by decide +kernel
theorem dX3_init_0 : decode cX3_init 0 = .ok (.aload_n 0, 1) := by decide +kernel
theorem dX3_init_1 : decode cX3_init 1 = .ok (.invokespecial 3, 3) := by decide +kernel
theorem dX3_init_4 : decode cX3_init 4 = .ok (.aload_n 0, 1) := by decide +kernel
theorem dX3_init_5 : decode cX3_init 5 = .ok (.new 9, 3) := by decide +kernel
theorem dX3_init_8 : decode cX3_init 8 = .ok (.dup, 1) := by decide +kernel
theorem dX3_init_9 : decode cX3_init 9 = .ok (.sipush 1200, 3) := by decide +kernel
theorem dX3_init_12 : decode cX3_init 12 = .ok (.invokespecial 11, 3) := by decide +kernel
theorem dX3_init_15 : decode cX3_init 15 = .ok (.putfield 14, 3) := by decide +kernel
theorem dX3_init_18 : decode cX3_init 18 = .ok (.aload_n 0, 1) := by decide +kernel
theorem dX3_init_19 : decode cX3_init 19 = .ok (.new 20, 3) := by decide +kernel
theorem dX3_init_22 : decode cX3_init 22 = .ok (.dup, 1) := by decide +kernel
theorem dX3_init_23 : decode cX3_init 23 = .ok (.bipush 120, 2) := by decide +kernel
theorem dX3_init_25 : decode cX3_init 25 = .ok (.bipush 10, 2) := by decide +kernel
theorem dX3_init_27 : decode cX3_init 27 = .ok (.invokespecial 22, 3) := by decide +kernel
theorem dX3_init_30 : decode cX3_init 30 = .ok (.putfield 25, 3) := by decide +kernel
theorem dX3_init_33 : decode cX3_init 33 = .ok (.aload_n 0, 1) := by decide +kernel
theorem dX3_init_34 : decode cX3_init 34 = .ok (.new 20, 3) := by decide +kernel
theorem dX3_init_37 : decode cX3_init 37 = .ok (.dup, 1) := by decide +kernel
theorem dX3_init_38 : decode cX3_init 38 = .ok (.bipush 120, 2) := by decide +kernel
theorem dX3_init_40 : decode cX3_init 40 = .ok (.iconst 1, 1) := by decide +kernel
theorem dX3_init_41 : decode cX3_init 41 = .ok (.invokespecial 22, 3) := by decide +kernel
theorem dX3_init_44 : decode cX3_init 44 = .ok (.putfield 29, 3) := by decide +kernel
theorem dX3_init_47 : decode cX3_init 47 = .ok (.aload_n 0, 1) := by decide +kernel
theorem dX3_init_48 : decode cX3_init 48 = .ok (.new 20, 3) := by decide +kernel
theorem dX3_init_51 : decode cX3_init 51 = .ok (.dup, 1) := by decide +kernel
theorem dX3_init_52 : decode cX3_init 52 = .ok (.bipush 120, 2) := by decide +kernel
theorem dX3_init_54 : decode cX3_init 54 = .ok (.iconst 1, 1) := by decide +kernel
theorem dX3_init_55 : decode cX3_init 55 = .ok (.invokespecial 22, 3) := by decide +kernel
theorem dX3_init_58 : decode cX3_init 58 = .ok (.putfield 32, 3) := by decide +kernel
theorem dX3_init_61 : decode cX3_init 61 = .ok (.aload_n 0, 1) := by decide +kernel
theorem dX3_init_62 : decode cX3_init 62 = .ok (.iconst 0, 1) := by decide +kernel
theorem dX3_init_63 : decode cX3_init 63 = .ok (.putfield 35, 3) := by decide +kernel
theorem dX3_init_66 : decode cX3_init 66 = .ok (.return_, 1) := by decide +kernel
theorem dX3_take_0 : decode cX3_take 0 = .ok (.aload_n 0, 1) := by decide +kernel
theorem dX3_take_1 : decode cX3_take 1 = .ok (.getfield 14, 3) := by decide +kernel
theorem dX3_take_4 : decode cX3_take 4 = .ok (.aload_n 1, 1) := by decide +kernel
theorem dX3_take_5 : decode cX3_take 5 = .ok (.invokevirtual 39, 3) := by decide +kernel
theorem dX3_take_8 : decode cX3_take 8 = .ok (.aload_n 0, 1) := by decide +kernel
theorem dX3_take_9 : decode cX3_take 9 = .ok (.iconst 0, 1) := by decide +kernel
theorem dX3_take_10 : decode cX3_take 10 = .ok (.putfield 35, 3) := by decide +kernel
theorem dX3_take_13 : decode cX3_take 13 = .ok (.return_, 1) := by decide +kernel
theorem dX3_splitter_0 : decode cX3_splitter 0 = .ok (.aload_n 0, 1) := by decide +kernel
theorem dX3_splitter_1 : decode cX3_splitter 1 = .ok (.getfield 14, 3) := by decide +kernel
theorem dX3_splitter_4 : decode cX3_splitter 4 = .ok (.iconst 3, 1) := by decide +kernel
theorem dX3_splitter_5 : decode cX3_splitter 5 = .ok (.invokevirtual 47, 3) := by decide +kernel
theorem dX3_splitter_8 : decode cX3_splitter 8 = .ok (.ireturn, 1) := by decide +kernel
theorem dX3_closer_0 : decode cX3_closer 0 = .ok (.aload_n 0, 1) := by decide +kernel
theorem dX3_closer_1 : decode cX3_closer 1 = .ok (.getfield 14, 3) := by decide +kernel
theorem dX3_closer_4 : decode cX3_closer 4 = .ok (.bipush 15, 2) := by decide +kernel
theorem dX3_closer_6 : decode cX3_closer 6 = .ok (.invokevirtual 47, 3) := by decide +kernel
theorem dX3_closer_9 : decode cX3_closer 9 = .ok (.ireturn, 1) := by decide +kernel
theorem dX3_opens_0 : decode cX3_opens 0 = .ok (.aload_n 0, 1) := by decide +kernel
theorem dX3_opens_1 : decode cX3_opens 1 = .ok (.invokevirtual 55, 3) := by decide +kernel
theorem dX3_opens_4 : decode cX3_opens 4 = .ok (.istore_n 1, 1) := by decide +kernel
theorem dX3_opens_5 : decode cX3_opens 5 = .ok (.aload_n 0, 1) := by decide +kernel
theorem dX3_opens_6 : decode cX3_opens 6 = .ok (.getfield 14, 3) := by decide +kernel
theorem dX3_opens_9 : decode cX3_opens 9 = .ok (.bipush 14, 2) := by decide +kernel
theorem dX3_opens_11 : decode cX3_opens 11 = .ok (.invokevirtual 47, 3) := by decide +kernel
theorem dX3_opens_14 : decode cX3_opens 14 = .ok (.istore_n 2, 1) := by decide +kernel
theorem dX3_opens_15 : decode cX3_opens 15 = .ok (.aload_n 0, 1) := by decide +kernel
theorem dX3_opens_16 : decode cX3_opens 16 = .ok (.invokevirtual 58, 3) := by decide +kernel
theorem dX3_opens_19 : decode cX3_opens 19 = .ok (.istore_n 3, 1) := by decide +kernel
theorem dX3_opens_20 : decode cX3_opens 20 = .ok (.aload_n 0, 1) := by decide +kernel
theorem dX3_opens_21 : decode cX3_opens 21 = .ok (.getfield 14, 3) := by decide +kernel
theorem dX3_opens_24 : decode cX3_opens 24 = .ok (.invokevirtual 43, 3) := by decide +kernel
theorem dX3_opens_27 : decode cX3_opens 27 = .ok (.bipush 16, 2) := by decide +kernel
theorem dX3_opens_29 : decode cX3_opens 29 = .ok (.if_icmp .lt 103, 3) := by decide +kernel
theorem dX3_opens_132 : decode cX3_opens 132 = .ok (.iconst 0, 1) := by decide +kernel
theorem dX3_opens_133 : decode cX3_opens 133 = .ok (.ireturn, 1) := by decide +kernel
theorem dX4_init_0 : decode cX4_init 0 = .ok (.aload_n 0, 1) := by decide +kernel
theorem dX4_init_1 : decode cX4_init 1 = .ok (.invokespecial 3, 3) := by decide +kernel
theorem dX4_init_4 : decode cX4_init 4 = .ok (.aload_n 0, 1) := by decide +kernel
theorem dX4_init_5 : decode cX4_init 5 = .ok (.iload_n 1, 1) := by decide +kernel
theorem dX4_init_6 : decode cX4_init 6 = .ok (.putfield 9, 3) := by decide +kernel
theorem dX4_init_9 : decode cX4_init 9 = .ok (.aload_n 0, 1) := by decide +kernel
theorem dX4_init_10 : decode cX4_init 10 = .ok (.iload_n 2, 1) := by decide +kernel
theorem dX4_init_11 : decode cX4_init 11 = .ok (.putfield 15, 3) := by decide +kernel
theorem dX4_init_14 : decode cX4_init 14 = .ok (.aload_n 0, 1) := by decide +kernel
theorem dX4_init_15 : decode cX4_init 15 = .ok (.iload_n 1, 1) := by decide +kernel
theorem dX4_init_16 : decode cX4_init 16 = .ok (.iload_n 2, 1) := by decide +kernel
theorem dX4_init_17 : decode cX4_init 17 = .ok (.imul, 1) := by decide +kernel
theorem dX4_init_18 : decode cX4_init 18 = .ok (.iconst 0, 1) := by decide +kernel
theorem dX4_init_19 : decode cX4_init 19 = .ok (.invokestatic 18, 3) := by decide +kernel
theorem dX4_init_22 : decode cX4_init 22 = .ok (.newarray .int, 2) := by decide +kernel
theorem dX4_init_24 : decode cX4_init 24 = .ok (.putfield 24, 3) := by decide +kernel
theorem dX4_init_27 : decode cX4_init 27 = .ok (.return_, 1) := by decide +kernel
theorem dX5_init_0 : decode cX5_init 0 = .ok (.aload_n 0, 1) := by decide +kernel
theorem dX5_init_1 : decode cX5_init 1 = .ok (.invokespecial 3, 3) := by decide +kernel
theorem dX5_init_4 : decode cX5_init 4 = .ok (.aload_n 0, 1) := by decide +kernel
theorem dX5_init_5 : decode cX5_init 5 = .ok (.aload_n 1, 1) := by decide +kernel
theorem dX5_init_6 : decode cX5_init 6 = .ok (.putfield 9, 3) := by decide +kernel
theorem dX5_init_9 : decode cX5_init 9 = .ok (.aload_n 0, 1) := by decide +kernel
theorem dX5_init_10 : decode cX5_init 10 = .ok (.new 15, 3) := by decide +kernel
theorem dX5_init_13 : decode cX5_init 13 = .ok (.dup, 1) := by decide +kernel
theorem dX5_init_14 : decode cX5_init 14 = .ok (.sipush 2000, 3) := by decide +kernel
theorem dX5_init_17 : decode cX5_init 17 = .ok (.invokespecial 17, 3) := by decide +kernel
theorem dX5_init_20 : decode cX5_init 20 = .ok (.putfield 20, 3) := by decide +kernel
theorem dX5_init_23 : decode cX5_init 23 = .ok (.aload_n 0, 1) := by decide +kernel
theorem dX5_init_24 : decode cX5_init 24 = .ok (.iconst 0, 1) := by decide +kernel
theorem dX5_init_25 : decode cX5_init 25 = .ok (.putfield 24, 3) := by decide +kernel
theorem dX5_init_28 : decode cX5_init 28 = .ok (.return_, 1) := by decide +kernel
theorem dX5_length_0 : decode cX5_length 0 = .ok (.aload_n 0, 1) := by decide +kernel
theorem dX5_length_1 : decode cX5_length 1 = .ok (.getfield 20, 3) := by decide +kernel
theorem dX5_length_4 : decode cX5_length 4 = .ok (.invokevirtual 28, 3) := by decide +kernel
theorem dX5_length_7 : decode cX5_length 7 = .ok (.ireturn, 1) := by decide +kernel
theorem dX5_at_0 : decode cX5_at 0 = .ok (.aload_n 0, 1) := by decide +kernel
theorem dX5_at_1 : decode cX5_at 1 = .ok (.getfield 20, 3) := by decide +kernel
theorem dX5_at_4 : decode cX5_at 4 = .ok (.iload_n 1, 1) := by decide +kernel
theorem dX5_at_5 : decode cX5_at 5 = .ok (.invokevirtual 32, 3) := by decide +kernel
theorem dX5_at_8 : decode cX5_at 8 = .ok (.ireturn, 1) := by decide +kernel
theorem dX6_init_0 : decode cX6_init 0 = .ok (.aload_n 0, 1) := by decide +kernel
theorem dX6_init_1 : decode cX6_init 1 = .ok (.invokespecial 3, 3) := by decide +kernel
theorem dX6_init_4 : decode cX6_init 4 = .ok (.aload_n 0, 1) := by decide +kernel
theorem dX6_init_5 : decode cX6_init 5 = .ok (.new 9, 3) := by decide +kernel
theorem dX6_init_8 : decode cX6_init 8 = .ok (.dup, 1) := by decide +kernel
theorem dX6_init_9 : decode cX6_init 9 = .ok (.sipush 1200, 3) := by decide +kernel
theorem dX6_init_12 : decode cX6_init 12 = .ok (.invokespecial 11, 3) := by decide +kernel
theorem dX6_init_15 : decode cX6_init 15 = .ok (.putfield 14, 3) := by decide +kernel
theorem dX6_init_18 : decode cX6_init 18 = .ok (.aload_n 0, 1) := by decide +kernel
theorem dX6_init_19 : decode cX6_init 19 = .ok (.new 18, 3) := by decide +kernel
theorem dX6_init_22 : decode cX6_init 22 = .ok (.dup, 1) := by decide +kernel
theorem dX6_init_23 : decode cX6_init 23 = .ok (.invokespecial 20, 3) := by decide +kernel
theorem dX6_init_26 : decode cX6_init 26 = .ok (.putfield 21, 3) := by decide +kernel
theorem dX6_init_29 : decode cX6_init 29 = .ok (.aload_n 0, 1) := by decide +kernel
theorem dX6_init_30 : decode cX6_init 30 = .ok (.new 25, 3) := by decide +kernel
theorem dX6_init_33 : decode cX6_init 33 = .ok (.dup, 1) := by decide +kernel
theorem dX6_init_34 : decode cX6_init 34 = .ok (.aload_n 0, 1) := by decide +kernel
theorem dX6_init_35 : decode cX6_init 35 = .ok (.getfield 21, 3) := by decide +kernel
theorem dX6_init_38 : decode cX6_init 38 = .ok (.invokespecial 27, 3) := by decide +kernel
theorem dX6_init_41 : decode cX6_init 41 = .ok (.putfield 30, 3) := by decide +kernel
theorem dX6_init_44 : decode cX6_init 44 = .ok (.aload_n 0, 1) := by decide +kernel
theorem dX6_init_45 : decode cX6_init 45 = .ok (.new 34, 3) := by decide +kernel
theorem dX6_init_48 : decode cX6_init 48 = .ok (.dup, 1) := by decide +kernel
theorem dX6_init_49 : decode cX6_init 49 = .ok (.aload_n 0, 1) := by decide +kernel
theorem dX6_init_50 : decode cX6_init 50 = .ok (.getfield 21, 3) := by decide +kernel
theorem dX6_init_53 : decode cX6_init 53 = .ok (.aload_n 0, 1) := by decide +kernel
theorem dX6_init_54 : decode cX6_init 54 = .ok (.getfield 30, 3) := by decide +kernel
theorem dX6_init_57 : decode cX6_init 57 = .ok (.invokespecial 36, 3) := by decide +kernel
theorem dX6_init_60 : decode cX6_init 60 = .ok (.putfield 39, 3) := by decide +kernel
theorem dX6_init_63 : decode cX6_init 63 = .ok (.aload_n 0, 1) := by decide +kernel
theorem dX6_init_64 : decode cX6_init 64 = .ok (.new 43, 3) := by decide +kernel
theorem dX6_init_67 : decode cX6_init 67 = .ok (.dup, 1) := by decide +kernel
theorem dX6_init_68 : decode cX6_init 68 = .ok (.aload_n 0, 1) := by decide +kernel
theorem dX6_init_69 : decode cX6_init 69 = .ok (.getfield 21, 3) := by decide +kernel
theorem dX6_init_72 : decode cX6_init 72 = .ok (.invokespecial 45, 3) := by decide +kernel
theorem dX6_init_75 : decode cX6_init 75 = .ok (.putfield 46, 3) := by decide +kernel
theorem dX6_init_78 : decode cX6_init 78 = .ok (.aload_n 0, 1) := by decide +kernel
theorem dX6_init_79 : decode cX6_init 79 = .ok (.iconst (-1), 1) := by decide +kernel
theorem dX6_init_80 : decode cX6_init 80 = .ok (.putfield 50, 3) := by decide +kernel
theorem dX6_init_83 : decode cX6_init 83 = .ok (.aload_n 0, 1) := by decide +kernel
theorem dX6_init_84 : decode cX6_init 84 = .ok (.iconst 0, 1) := by decide +kernel
theorem dX6_init_85 : decode cX6_init 85 = .ok (.putfield 54, 3) := by decide +kernel
theorem dX6_init_88 : decode cX6_init 88 = .ok (.return_, 1) := by decide +kernel
theorem dX6_feed_0 : decode cX6_feed 0 = .ok (.iload_n 3, 1) := by decide +kernel
theorem dX6_feed_1 : decode cX6_feed 1 = .ok (.iconst 1, 1) := by decide +kernel
theorem dX6_feed_2 : decode cX6_feed 2 = .ok (.if_icmp .lt 9, 3) := by decide +kernel
theorem dX6_feed_5 : decode cX6_feed 5 = .ok (.iload_n 3, 1) := by decide +kernel
theorem dX6_feed_6 : decode cX6_feed 6 = .ok (.bipush 8, 2) := by decide +kernel
theorem dX6_feed_8 : decode cX6_feed 8 = .ok (.if_icmp .le 6, 3) := by decide +kernel
theorem dX6_feed_11 : decode cX6_feed 11 = .ok (.bipush (-3), 2) := by decide +kernel
theorem dX6_feed_13 : decode cX6_feed 13 = .ok (.ireturn, 1) := by decide +kernel
theorem dX6_feed_14 : decode cX6_feed 14 = .ok (.aload_n 0, 1) := by decide +kernel
theorem dX6_feed_15 : decode cX6_feed 15 = .ok (.getfield 14, 3) := by decide +kernel
theorem dX6_feed_18 : decode cX6_feed 18 = .ok (.invokevirtual 58, 3) := by decide +kernel
theorem dX6_feed_21 : decode cX6_feed 21 = .ok (.iload_n 3, 1) := by decide +kernel
theorem dX6_feed_22 : decode cX6_feed 22 = .ok (.iadd, 1) := by decide +kernel
theorem dX6_feed_23 : decode cX6_feed 23 = .ok (.sipush 1200, 3) := by decide +kernel
theorem dX6_feed_26 : decode cX6_feed 26 = .ok (.if_icmp .le 6, 3) := by decide +kernel
theorem dX6_feed_32 : decode cX6_feed 32 = .ok (.iload_n 3, 1) := by decide +kernel
theorem dX6_feed_33 : decode cX6_feed 33 = .ok (.iconst 1, 1) := by decide +kernel
theorem dX6_feed_34 : decode cX6_feed 34 = .ok (.isub, 1) := by decide +kernel
theorem dX6_feed_35 : decode cX6_feed 35 = .ok (.istore 4, 2) := by decide +kernel
theorem dX6_feed_37 : decode cX6_feed 37 = .ok (.iload 4, 2) := by decide +kernel
theorem dX6_feed_39 : decode cX6_feed 39 = .ok (.ifCond .lt 29, 3) := by decide +kernel
theorem dX6_feed_42 : decode cX6_feed 42 = .ok (.aload_n 0, 1) := by decide +kernel
theorem dX6_feed_43 : decode cX6_feed 43 = .ok (.getfield 14, 3) := by decide +kernel
theorem dX6_feed_46 : decode cX6_feed 46 = .ok (.lload_n 1, 1) := by decide +kernel
theorem dX6_feed_47 : decode cX6_feed 47 = .ok (.bipush 8, 2) := by decide +kernel
theorem dX6_feed_49 : decode cX6_feed 49 = .ok (.iload 4, 2) := by decide +kernel
theorem dX6_feed_51 : decode cX6_feed 51 = .ok (.imul, 1) := by decide +kernel
theorem dX6_feed_52 : decode cX6_feed 52 = .ok (.lushr, 1) := by decide +kernel
theorem dX6_feed_53 : decode cX6_feed 53 = .ok (.ldc2_w 62, 3) := by decide +kernel
theorem dX6_feed_56 : decode cX6_feed 56 = .ok (.land, 1) := by decide +kernel
theorem dX6_feed_57 : decode cX6_feed 57 = .ok (.l2i, 1) := by decide +kernel
theorem dX6_feed_58 : decode cX6_feed 58 = .ok (.invokevirtual 64, 3) := by decide +kernel
theorem dX6_feed_61 : decode cX6_feed 61 = .ok (.pop, 1) := by decide +kernel
theorem dX6_feed_62 : decode cX6_feed 62 = .ok (.iinc 4 (-1), 3) := by decide +kernel
theorem dX6_feed_65 : decode cX6_feed 65 = .ok (.goto (-28), 3) := by decide +kernel
theorem dX6_feed_68 : decode cX6_feed 68 = .ok (.aload_n 0, 1) := by decide +kernel
theorem dX6_feed_69 : decode cX6_feed 69 = .ok (.getfield 14, 3) := by decide +kernel
theorem dX6_feed_72 : decode cX6_feed 72 = .ok (.invokevirtual 58, 3) := by decide +kernel
theorem dX6_feed_75 : decode cX6_feed 75 = .ok (.ireturn, 1) := by decide +kernel
theorem dX6_set_0 : decode cX6_set 0 = .ok (.iload_n 1, 1) := by decide +kernel
theorem dX6_set_1 : decode cX6_set 1 = .ok (.ifCond .lt 14, 3) := by decide +kernel
theorem dX6_set_4 : decode cX6_set 4 = .ok (.iload_n 1, 1) := by decide +kernel
theorem dX6_set_5 : decode cX6_set 5 = .ok (.aload_n 0, 1) := by decide +kernel
theorem dX6_set_6 : decode cX6_set 6 = .ok (.getfield 14, 3) := by decide +kernel
theorem dX6_set_9 : decode cX6_set 9 = .ok (.invokevirtual 58, 3) := by decide +kernel
theorem dX6_set_12 : decode cX6_set 12 = .ok (.if_icmp .lt 6, 3) := by decide +kernel
theorem dX6_set_15 : decode cX6_set 15 = .ok (.bipush (-2), 2) := by decide +kernel
theorem dX6_set_17 : decode cX6_set 17 = .ok (.ireturn, 1) := by decide +kernel
theorem dX6_cut_0 : decode cX6_cut 0 = .ok (.iload_n 1, 1) := by decide +kernel
theorem dX6_cut_1 : decode cX6_cut 1 = .ok (.ifCond .lt 14, 3) := by decide +kernel
theorem dX6_cut_4 : decode cX6_cut 4 = .ok (.iload_n 1, 1) := by decide +kernel
theorem dX6_cut_5 : decode cX6_cut 5 = .ok (.aload_n 0, 1) := by decide +kernel
theorem dX6_cut_6 : decode cX6_cut 6 = .ok (.getfield 14, 3) := by decide +kernel
theorem dX6_cut_9 : decode cX6_cut 9 = .ok (.invokevirtual 58, 3) := by decide +kernel
theorem dX6_cut_12 : decode cX6_cut 12 = .ok (.if_icmp .le 6, 3) := by decide +kernel
theorem dX6_cut_15 : decode cX6_cut 15 = .ok (.bipush (-3), 2) := by decide +kernel
theorem dX6_cut_17 : decode cX6_cut 17 = .ok (.ireturn, 1) := by decide +kernel
theorem dX6_cut_18 : decode cX6_cut 18 = .ok (.aload_n 0, 1) := by decide +kernel
theorem dX6_cut_19 : decode cX6_cut 19 = .ok (.getfield 14, 3) := by decide +kernel
theorem dX6_cut_22 : decode cX6_cut 22 = .ok (.invokevirtual 58, 3) := by decide +kernel
theorem dX6_cut_25 : decode cX6_cut 25 = .ok (.iload_n 1, 1) := by decide +kernel
theorem dX6_cut_26 : decode cX6_cut 26 = .ok (.isub, 1) := by decide +kernel
theorem dX6_cut_27 : decode cX6_cut 27 = .ok (.istore_n 2, 1) := by decide +kernel
theorem dX6_cut_28 : decode cX6_cut 28 = .ok (.aload_n 0, 1) := by decide +kernel
theorem dX6_cut_29 : decode cX6_cut 29 = .ok (.getfield 14, 3) := by decide +kernel
theorem dX6_cut_32 : decode cX6_cut 32 = .ok (.iload_n 1, 1) := by decide +kernel
theorem dX6_cut_33 : decode cX6_cut 33 = .ok (.invokevirtual 76, 3) := by decide +kernel
theorem dX6_cut_36 : decode cX6_cut 36 = .ok (.iload_n 2, 1) := by decide +kernel
theorem dX6_cut_37 : decode cX6_cut 37 = .ok (.ireturn, 1) := by decide +kernel
theorem dX6_read_0 : decode cX6_read 0 = .ok (.aload_n 0, 1) := by decide +kernel
theorem dX6_read_1 : decode cX6_read 1 = .ok (.getfield 21, 3) := by decide +kernel
theorem dX6_read_4 : decode cX6_read 4 = .ok (.aload_n 0, 1) := by decide +kernel
theorem dX6_read_5 : decode cX6_read 5 = .ok (.getfield 14, 3) := by decide +kernel
theorem dX6_read_8 : decode cX6_read 8 = .ok (.invokevirtual 79, 3) := by decide +kernel
theorem dX6_read_11 : decode cX6_read 11 = .ok (.aload_n 0, 1) := by decide +kernel
theorem dX6_read_12 : decode cX6_read 12 = .ok (.getfield 30, 3) := by decide +kernel
theorem dX6_read_15 : decode cX6_read 15 = .ok (.invokevirtual 83, 3) := by decide +kernel
theorem dX6_read_18 : decode cX6_read 18 = .ok (.aload_n 0, 1) := by decide +kernel
theorem dX6_read_19 : decode cX6_read 19 = .ok (.iconst (-1), 1) := by decide +kernel
theorem dX6_read_20 : decode cX6_read 20 = .ok (.putfield 50, 3) := by decide +kernel
theorem dX6_read_23 : decode cX6_read 23 = .ok (.aload_n 0, 1) := by decide +kernel
theorem dX6_read_24 : decode cX6_read 24 = .ok (.getfield 21, 3) := by decide +kernel
theorem dX6_read_27 : decode cX6_read 27 = .ok (.invokevirtual 86, 3) := by decide +kernel
theorem dX6_read_30 : decode cX6_read 30 = .ok (.ifCond .eq 10, 3) := by decide +kernel
theorem dX6_read_40 : decode cX6_read 40 = .ok (.aload_n 0, 1) := by decide +kernel
theorem dX6_read_41 : decode cX6_read 41 = .ok (.iconst 1, 1) := by decide +kernel
theorem dX6_read_42 : decode cX6_read 42 = .ok (.iconst 0, 1) := by decide +kernel
theorem dX6_read_43 : decode cX6_read 43 = .ok (.invokevirtual 93, 3) := by decide +kernel
theorem dX6_read_46 : decode cX6_read 46 = .ok (.istore_n 1, 1) := by decide +kernel
theorem dX6_read_47 : decode cX6_read 47 = .ok (.aload_n 0, 1) := by decide +kernel
theorem dX6_read_48 : decode cX6_read 48 = .ok (.iload_n 1, 1) := by decide +kernel
theorem dX6_read_49 : decode cX6_read 49 = .ok (.ifCond .ne 7, 3) := by decide +kernel
theorem dX6_read_56 : decode cX6_read 56 = .ok (.iconst 0, 1) := by decide +kernel
theorem dX6_read_57 : decode cX6_read 57 = .ok (.putfield 54, 3) := by decide +kernel
theorem dX6_read_60 : decode cX6_read 60 = .ok (.iconst 0, 1) := by decide +kernel
theorem dX6_read_61 : decode cX6_read 61 = .ok (.istore_n 2, 1) := by decide +kernel
theorem dX6_read_62 : decode cX6_read 62 = .ok (.aload_n 0, 1) := by decide +kernel
theorem dX6_read_63 : decode cX6_read 63 = .ok (.getfield 54, 3) := by decide +kernel
theorem dX6_read_66 : decode cX6_read 66 = .ok (.ifCond .eq 28, 3) := by decide +kernel
theorem dX6_read_94 : decode cX6_read 94 = .ok (.iload_n 1, 1) := by decide +kernel
theorem dX6_read_95 : decode cX6_read 95 = .ok (.ireturn, 1) := by decide +kernel
theorem dX6_where_0 : decode cX6_where 0 = .ok (.aload_n 0, 1) := by decide +kernel
theorem dX6_where_1 : decode cX6_where 1 = .ok (.getfield 50, 3) := by decide +kernel
theorem dX6_where_4 : decode cX6_where 4 = .ok (.ireturn, 1) := by decide +kernel
theorem dX6_count_0 : decode cX6_count 0 = .ok (.iload_n 1, 1) := by decide +kernel
theorem dX6_count_1 : decode cX6_count 1 = .ok (.ifCond .lt 9, 3) := by decide +kernel
theorem dX6_count_4 : decode cX6_count 4 = .ok (.iload_n 1, 1) := by decide +kernel
theorem dX6_count_5 : decode cX6_count 5 = .ok (.bipush 6, 2) := by decide +kernel
theorem dX6_count_7 : decode cX6_count 7 = .ok (.if_icmp .le 6, 3) := by decide +kernel
theorem dX6_count_10 : decode cX6_count 10 = .ok (.bipush (-3), 2) := by decide +kernel
theorem dX6_count_12 : decode cX6_count 12 = .ok (.ireturn, 1) := by decide +kernel
theorem dX6_count_13 : decode cX6_count 13 = .ok (.iload_n 1, 1) := by decide +kernel
theorem dX6_count_14 : decode cX6_count 14 = .ok (.iconst 5, 1) := by decide +kernel
theorem dX6_count_15 : decode cX6_count 15 = .ok (.if_icmp .ne 11, 3) := by decide +kernel
theorem dX6_count_18 : decode cX6_count 18 = .ok (.aload_n 0, 1) := by decide +kernel
theorem dX6_count_19 : decode cX6_count 19 = .ok (.getfield 14, 3) := by decide +kernel
theorem dX6_count_22 : decode cX6_count 22 = .ok (.invokevirtual 58, 3) := by decide +kernel
theorem dX6_count_25 : decode cX6_count 25 = .ok (.ireturn, 1) := by decide +kernel
theorem dX6_count_26 : decode cX6_count 26 = .ok (.iload_n 1, 1) := by decide +kernel
theorem dX6_count_27 : decode cX6_count 27 = .ok (.bipush 6, 2) := by decide +kernel
theorem dX6_count_29 : decode cX6_count 29 = .ok (.if_icmp .ne 11, 3) := by decide +kernel
theorem dX6_count_32 : decode cX6_count 32 = .ok (.aload_n 0, 1) := by decide +kernel
theorem dX6_count_33 : decode cX6_count 33 = .ok (.getfield 46, 3) := by decide +kernel
theorem dX6_count_36 : decode cX6_count 36 = .ok (.invokevirtual 103, 3) := by decide +kernel
theorem dX6_count_39 : decode cX6_count 39 = .ok (.ireturn, 1) := by decide +kernel
theorem dX6_count_40 : decode cX6_count 40 = .ok (.aload_n 0, 1) := by decide +kernel
theorem dX6_count_41 : decode cX6_count 41 = .ok (.getfield 54, 3) := by decide +kernel
theorem dX6_count_44 : decode cX6_count 44 = .ok (.ifCond .ne 6, 3) := by decide +kernel
theorem dX6_count_47 : decode cX6_count 47 = .ok (.bipush (-4), 2) := by decide +kernel
theorem dX6_count_49 : decode cX6_count 49 = .ok (.ireturn, 1) := by decide +kernel
theorem dX6_group_0 : decode cX6_group 0 = .ok (.aload_n 0, 1) := by decide +kernel
theorem dX6_group_1 : decode cX6_group 1 = .ok (.getfield 54, 3) := by decide +kernel
theorem dX6_group_4 : decode cX6_group 4 = .ok (.ifCond .ne 6, 3) := by decide +kernel
theorem dX6_group_7 : decode cX6_group 7 = .ok (.bipush (-4), 2) := by decide +kernel
theorem dX6_group_9 : decode cX6_group 9 = .ok (.ireturn, 1) := by decide +kernel
theorem dX6_setOf_0 : decode cX6_setOf 0 = .ok (.aload_n 0, 1) := by decide +kernel
theorem dX6_setOf_1 : decode cX6_setOf 1 = .ok (.getfield 54, 3) := by decide +kernel
theorem dX6_setOf_4 : decode cX6_setOf 4 = .ok (.ifCond .ne 6, 3) := by decide +kernel
theorem dX6_setOf_7 : decode cX6_setOf 7 = .ok (.bipush (-4), 2) := by decide +kernel
theorem dX6_setOf_9 : decode cX6_setOf 9 = .ok (.ireturn, 1) := by decide +kernel
theorem dX6_fault_0 : decode cX6_fault 0 = .ok (.aload_n 0, 1) := by decide +kernel
theorem dX6_fault_1 : decode cX6_fault 1 = .ok (.getfield 54, 3) := by decide +kernel
theorem dX6_fault_4 : decode cX6_fault 4 = .ok (.ifCond .ne 6, 3) := by decide +kernel
theorem dX6_fault_7 : decode cX6_fault 7 = .ok (.bipush (-4), 2) := by decide +kernel
theorem dX6_fault_9 : decode cX6_fault 9 = .ok (.ireturn, 1) := by decide +kernel
theorem dX6_level_0 : decode cX6_level 0 = .ok (.aload_n 0, 1) := by decide +kernel
theorem dX6_level_1 : decode cX6_level 1 = .ok (.getfield 54, 3) := by decide +kernel
theorem dX6_level_4 : decode cX6_level 4 = .ok (.ifCond .ne 6, 3) := by decide +kernel
theorem dX6_level_7 : decode cX6_level 7 = .ok (.bipush (-4), 2) := by decide +kernel
theorem dX6_level_9 : decode cX6_level 9 = .ok (.ireturn, 1) := by decide +kernel
theorem dX6_claim_0 : decode cX6_claim 0 = .ok (.aload_n 0, 1) := by decide +kernel
theorem dX6_claim_1 : decode cX6_claim 1 = .ok (.getfield 54, 3) := by decide +kernel
theorem dX6_claim_4 : decode cX6_claim 4 = .ok (.ifCond .ne 6, 3) := by decide +kernel
theorem dX6_claim_7 : decode cX6_claim 7 = .ok (.bipush (-4), 2) := by decide +kernel
theorem dX6_claim_9 : decode cX6_claim 9 = .ok (.ireturn, 1) := by decide +kernel
theorem dX6_size_0 : decode cX6_size 0 = .ok (.aload_n 0, 1) := by decide +kernel
theorem dX6_size_1 : decode cX6_size 1 = .ok (.getfield 54, 3) := by decide +kernel
theorem dX6_size_4 : decode cX6_size 4 = .ok (.ifCond .ne 6, 3) := by decide +kernel
theorem dX6_size_7 : decode cX6_size 7 = .ok (.bipush (-4), 2) := by decide +kernel
theorem dX6_size_9 : decode cX6_size 9 = .ok (.ireturn, 1) := by decide +kernel
theorem dX6_byteOf_0 : decode cX6_byteOf 0 = .ok (.aload_n 0, 1) := by decide +kernel
theorem dX6_byteOf_1 : decode cX6_byteOf 1 = .ok (.getfield 54, 3) := by decide +kernel
theorem dX6_byteOf_4 : decode cX6_byteOf 4 = .ok (.ifCond .ne 6, 3) := by decide +kernel
theorem dX6_byteOf_7 : decode cX6_byteOf 7 = .ok (.bipush (-4), 2) := by decide +kernel
theorem dX6_byteOf_9 : decode cX6_byteOf 9 = .ok (.ireturn, 1) := by decide +kernel
theorem dX6_answer_0 : decode cX6_answer 0 = .ok (.aload_n 0, 1) := by decide +kernel
theorem dX6_answer_1 : decode cX6_answer 1 = .ok (.getfield 54, 3) := by decide +kernel
theorem dX6_answer_4 : decode cX6_answer 4 = .ok (.ifCond .ne 6, 3) := by decide +kernel
theorem dX6_answer_7 : decode cX6_answer 7 = .ok (.bipush (-4), 2) := by decide +kernel
theorem dX6_answer_9 : decode cX6_answer 9 = .ok (.ireturn, 1) := by decide +kernel
theorem dX6_answered_0 : decode cX6_answered 0 = .ok (.aload_n 0, 1) := by decide +kernel
theorem dX6_answered_1 : decode cX6_answered 1 = .ok (.getfield 46, 3) := by decide +kernel
theorem dX6_answered_4 : decode cX6_answered 4 = .ok (.iload_n 1, 1) := by decide +kernel
theorem dX6_answered_5 : decode cX6_answered 5 = .ok (.invokevirtual 169, 3) := by decide +kernel
theorem dX6_answered_8 : decode cX6_answered 8 = .ok (.istore_n 2, 1) := by decide +kernel
theorem dX6_answered_9 : decode cX6_answered 9 = .ok (.iload_n 2, 1) := by decide +kernel
theorem dX6_answered_10 : decode cX6_answered 10 = .ok (.iconst (-1), 1) := by decide +kernel
theorem dX6_answered_11 : decode cX6_answered 11 = .ok (.if_icmp .ne 8, 3) := by decide +kernel
theorem dX6_answered_14 : decode cX6_answered 14 = .ok (.bipush (-2), 2) := by decide +kernel
theorem dX6_answered_16 : decode cX6_answered 16 = .ok (.goto 4, 3) := by decide +kernel
theorem dX6_answered_20 : decode cX6_answered 20 = .ok (.ireturn, 1) := by decide +kernel
theorem dX6_turn_0 : decode cX6_turn 0 = .ok (.aload_n 0, 1) := by decide +kernel
theorem dX6_turn_1 : decode cX6_turn 1 = .ok (.getfield 46, 3) := by decide +kernel
theorem dX6_turn_4 : decode cX6_turn 4 = .ok (.invokevirtual 103, 3) := by decide +kernel
theorem dX6_turn_7 : decode cX6_turn 7 = .ok (.istore_n 1, 1) := by decide +kernel
theorem dX6_turn_8 : decode cX6_turn 8 = .ok (.iload_n 1, 1) := by decide +kernel
theorem dX6_turn_9 : decode cX6_turn 9 = .ok (.ifCond .ne 6, 3) := by decide +kernel
theorem dX6_turn_12 : decode cX6_turn 12 = .ok (.bipush (-4), 2) := by decide +kernel
theorem dX6_turn_14 : decode cX6_turn 14 = .ok (.ireturn, 1) := by decide +kernel
theorem dX6_tell_0 : decode cX6_tell 0 = .ok (.aload_n 0, 1) := by decide +kernel
theorem dX6_tell_1 : decode cX6_tell 1 = .ok (.iload_n 2, 1) := by decide +kernel
theorem dX6_tell_2 : decode cX6_tell 2 = .ok (.putfield 50, 3) := by decide +kernel
theorem dX6_tell_5 : decode cX6_tell 5 = .ok (.iload_n 1, 1) := by decide +kernel
theorem dX6_tell_6 : decode cX6_tell 6 = .ok (.ireturn, 1) := by decide +kernel
theorem dX7_init_0 : decode cX7_init 0 = .ok (.aload_n 0, 1) := by decide +kernel
theorem dX7_init_1 : decode cX7_init 1 = .ok (.invokespecial 1, 3) := by decide +kernel
theorem dX7_init_4 : decode cX7_init 4 = .ok (.aload_n 0, 1) := by decide +kernel
theorem dX7_init_5 : decode cX7_init 5 = .ok (.sipush 1200, 3) := by decide +kernel
theorem dX7_init_8 : decode cX7_init 8 = .ok (.newarray .int, 2) := by decide +kernel
theorem dX7_init_10 : decode cX7_init 10 = .ok (.putfield 7, 3) := by decide +kernel
theorem dX7_init_13 : decode cX7_init 13 = .ok (.aload_n 0, 1) := by decide +kernel
theorem dX7_init_14 : decode cX7_init 14 = .ok (.iconst (-1), 1) := by decide +kernel
theorem dX7_init_15 : decode cX7_init 15 = .ok (.putfield 13, 3) := by decide +kernel
theorem dX7_init_18 : decode cX7_init 18 = .ok (.aload_n 0, 1) := by decide +kernel
theorem dX7_init_19 : decode cX7_init 19 = .ok (.sipush 1200, 3) := by decide +kernel
theorem dX7_init_22 : decode cX7_init 22 = .ok (.newarray .int, 2) := by decide +kernel
theorem dX7_init_24 : decode cX7_init 24 = .ok (.putfield 17, 3) := by decide +kernel
theorem dX7_init_27 : decode cX7_init 27 = .ok (.aload_n 0, 1) := by decide +kernel
theorem dX7_init_28 : decode cX7_init 28 = .ok (.bipush 120, 2) := by decide +kernel
theorem dX7_init_30 : decode cX7_init 30 = .ok (.newarray .int, 2) := by decide +kernel
theorem dX7_init_32 : decode cX7_init 32 = .ok (.putfield 20, 3) := by decide +kernel
theorem dX7_init_35 : decode cX7_init 35 = .ok (.aload_n 0, 1) := by decide +kernel
theorem dX7_init_36 : decode cX7_init 36 = .ok (.bipush 120, 2) := by decide +kernel
theorem dX7_init_38 : decode cX7_init 38 = .ok (.newarray .int, 2) := by decide +kernel
theorem dX7_init_40 : decode cX7_init 40 = .ok (.putfield 23, 3) := by decide +kernel
theorem dX7_init_43 : decode cX7_init 43 = .ok (.aload_n 0, 1) := by decide +kernel
theorem dX7_init_44 : decode cX7_init 44 = .ok (.sipush 1080, 3) := by decide +kernel
theorem dX7_init_47 : decode cX7_init 47 = .ok (.newarray .int, 2) := by decide +kernel
theorem dX7_init_49 : decode cX7_init 49 = .ok (.putfield 26, 3) := by decide +kernel
theorem dX7_init_52 : decode cX7_init 52 = .ok (.aload_n 0, 1) := by decide +kernel
theorem dX7_init_53 : decode cX7_init 53 = .ok (.sipush 1080, 3) := by decide +kernel
theorem dX7_init_56 : decode cX7_init 56 = .ok (.newarray .int, 2) := by decide +kernel
theorem dX7_init_58 : decode cX7_init 58 = .ok (.putfield 29, 3) := by decide +kernel
theorem dX7_init_61 : decode cX7_init 61 = .ok (.aload_n 0, 1) := by decide +kernel
theorem dX7_init_62 : decode cX7_init 62 = .ok (.bipush 120, 2) := by decide +kernel
theorem dX7_init_64 : decode cX7_init 64 = .ok (.newarray .boolean, 2) := by decide +kernel
theorem dX7_init_66 : decode cX7_init 66 = .ok (.putfield 32, 3) := by decide +kernel
theorem dX7_init_69 : decode cX7_init 69 = .ok (.aload_n 0, 1) := by decide +kernel
theorem dX7_init_70 : decode cX7_init 70 = .ok (.bipush 120, 2) := by decide +kernel
theorem dX7_init_72 : decode cX7_init 72 = .ok (.newarray .int, 2) := by decide +kernel
theorem dX7_init_74 : decode cX7_init 74 = .ok (.putfield 36, 3) := by decide +kernel
theorem dX7_init_77 : decode cX7_init 77 = .ok (.aload_n 0, 1) := by decide +kernel
theorem dX7_init_78 : decode cX7_init 78 = .ok (.bipush 120, 2) := by decide +kernel
theorem dX7_init_80 : decode cX7_init 80 = .ok (.newarray .int, 2) := by decide +kernel
theorem dX7_init_82 : decode cX7_init 82 = .ok (.putfield 39, 3) := by decide +kernel
theorem dX7_init_85 : decode cX7_init 85 = .ok (.aload_n 0, 1) := by decide +kernel
theorem dX7_init_86 : decode cX7_init 86 = .ok (.bipush 120, 2) := by decide +kernel
theorem dX7_init_88 : decode cX7_init 88 = .ok (.newarray .int, 2) := by decide +kernel
theorem dX7_init_90 : decode cX7_init 90 = .ok (.putfield 42, 3) := by decide +kernel
theorem dX7_init_93 : decode cX7_init 93 = .ok (.aload_n 0, 1) := by decide +kernel
theorem dX7_init_94 : decode cX7_init 94 = .ok (.bipush 120, 2) := by decide +kernel
theorem dX7_init_96 : decode cX7_init 96 = .ok (.newarray .int, 2) := by decide +kernel
theorem dX7_init_98 : decode cX7_init 98 = .ok (.putfield 45, 3) := by decide +kernel
theorem dX7_init_101 : decode cX7_init 101 = .ok (.aload_n 0, 1) := by decide +kernel
theorem dX7_init_102 : decode cX7_init 102 = .ok (.bipush 120, 2) := by decide +kernel
theorem dX7_init_104 : decode cX7_init 104 = .ok (.newarray .int, 2) := by decide +kernel
theorem dX7_init_106 : decode cX7_init 106 = .ok (.putfield 48, 3) := by decide +kernel
theorem dX7_init_109 : decode cX7_init 109 = .ok (.aload_n 0, 1) := by decide +kernel
theorem dX7_init_110 : decode cX7_init 110 = .ok (.bipush 24, 2) := by decide +kernel
theorem dX7_init_112 : decode cX7_init 112 = .ok (.newarray .int, 2) := by decide +kernel
theorem dX7_init_114 : decode cX7_init 114 = .ok (.putfield 51, 3) := by decide +kernel
theorem dX7_init_117 : decode cX7_init 117 = .ok (.aload_n 0, 1) := by decide +kernel
theorem dX7_init_118 : decode cX7_init 118 = .ok (.bipush 24, 2) := by decide +kernel
theorem dX7_init_120 : decode cX7_init 120 = .ok (.newarray .int, 2) := by decide +kernel
theorem dX7_init_122 : decode cX7_init 122 = .ok (.putfield 54, 3) := by decide +kernel
theorem dX7_init_125 : decode cX7_init 125 = .ok (.aload_n 0, 1) := by decide +kernel
theorem dX7_init_126 : decode cX7_init 126 = .ok (.bipush 24, 2) := by decide +kernel
theorem dX7_init_128 : decode cX7_init 128 = .ok (.newarray .int, 2) := by decide +kernel
theorem dX7_init_130 : decode cX7_init 130 = .ok (.putfield 57, 3) := by decide +kernel
theorem dX7_init_133 : decode cX7_init 133 = .ok (.aload_n 0, 1) := by decide +kernel
theorem dX7_init_134 : decode cX7_init 134 = .ok (.sipush 2000, 3) := by decide +kernel
theorem dX7_init_137 : decode cX7_init 137 = .ok (.newarray .int, 2) := by decide +kernel
theorem dX7_init_139 : decode cX7_init 139 = .ok (.putfield 60, 3) := by decide +kernel
theorem dX7_init_142 : decode cX7_init 142 = .ok (.return_, 1) := by decide +kernel
theorem dX7_in_0 : decode cX7_in 0 = .ok (.iload_n 0, 1) := by decide +kernel
theorem dX7_in_1 : decode cX7_in 1 = .ok (.iload_n 1, 1) := by decide +kernel
theorem dX7_in_2 : decode cX7_in 2 = .ok (.if_icmp .lt 12, 3) := by decide +kernel
theorem dX7_in_5 : decode cX7_in 5 = .ok (.iload_n 0, 1) := by decide +kernel
theorem dX7_in_6 : decode cX7_in 6 = .ok (.iload_n 2, 1) := by decide +kernel
theorem dX7_in_7 : decode cX7_in 7 = .ok (.if_icmp .gt 7, 3) := by decide +kernel
theorem dX7_in_10 : decode cX7_in 10 = .ok (.iconst 1, 1) := by decide +kernel
theorem dX7_in_11 : decode cX7_in 11 = .ok (.goto 4, 3) := by decide +kernel
theorem dX7_in_14 : decode cX7_in 14 = .ok (.iconst 0, 1) := by decide +kernel
theorem dX7_in_15 : decode cX7_in 15 = .ok (.ireturn, 1) := by decide +kernel
theorem dX7_feed_0 : decode cX7_feed 0 = .ok (.iload_n 3, 1) := by decide +kernel
theorem dX7_feed_1 : decode cX7_feed 1 = .ok (.iconst 1, 1) := by decide +kernel
theorem dX7_feed_2 : decode cX7_feed 2 = .ok (.bipush 8, 2) := by decide +kernel
theorem dX7_feed_4 : decode cX7_feed 4 = .ok (.invokestatic 63, 3) := by decide +kernel
theorem dX7_feed_7 : decode cX7_feed 7 = .ok (.ifCond .ne 6, 3) := by decide +kernel
theorem dX7_feed_10 : decode cX7_feed 10 = .ok (.bipush (-3), 2) := by decide +kernel
theorem dX7_feed_12 : decode cX7_feed 12 = .ok (.ireturn, 1) := by decide +kernel
theorem dX7_feed_13 : decode cX7_feed 13 = .ok (.aload_n 0, 1) := by decide +kernel
theorem dX7_feed_14 : decode cX7_feed 14 = .ok (.getfield 67, 3) := by decide +kernel
theorem dX7_feed_17 : decode cX7_feed 17 = .ok (.iload_n 3, 1) := by decide +kernel
theorem dX7_feed_18 : decode cX7_feed 18 = .ok (.iadd, 1) := by decide +kernel
theorem dX7_feed_19 : decode cX7_feed 19 = .ok (.sipush 1200, 3) := by decide +kernel
theorem dX7_feed_22 : decode cX7_feed 22 = .ok (.if_icmp .le 6, 3) := by decide +kernel
theorem dX7_feed_28 : decode cX7_feed 28 = .ok (.iload_n 3, 1) := by decide +kernel
theorem dX7_feed_29 : decode cX7_feed 29 = .ok (.iconst 1, 1) := by decide +kernel
theorem dX7_feed_30 : decode cX7_feed 30 = .ok (.isub, 1) := by decide +kernel
theorem dX7_feed_31 : decode cX7_feed 31 = .ok (.istore 4, 2) := by decide +kernel
theorem dX7_feed_33 : decode cX7_feed 33 = .ok (.iload 4, 2) := by decide +kernel
theorem dX7_feed_35 : decode cX7_feed 35 = .ok (.ifCond .lt 40, 3) := by decide +kernel
theorem dX7_feed_38 : decode cX7_feed 38 = .ok (.aload_n 0, 1) := by decide +kernel
theorem dX7_feed_39 : decode cX7_feed 39 = .ok (.getfield 7, 3) := by decide +kernel
theorem dX7_feed_42 : decode cX7_feed 42 = .ok (.aload_n 0, 1) := by decide +kernel
theorem dX7_feed_43 : decode cX7_feed 43 = .ok (.getfield 67, 3) := by decide +kernel
theorem dX7_feed_46 : decode cX7_feed 46 = .ok (.lload_n 1, 1) := by decide +kernel
theorem dX7_feed_47 : decode cX7_feed 47 = .ok (.bipush 8, 2) := by decide +kernel
theorem dX7_feed_49 : decode cX7_feed 49 = .ok (.iload 4, 2) := by decide +kernel
theorem dX7_feed_51 : decode cX7_feed 51 = .ok (.imul, 1) := by decide +kernel
theorem dX7_feed_52 : decode cX7_feed 52 = .ok (.lshr, 1) := by decide +kernel
theorem dX7_feed_53 : decode cX7_feed 53 = .ok (.ldc2_w 70, 3) := by decide +kernel
theorem dX7_feed_56 : decode cX7_feed 56 = .ok (.land, 1) := by decide +kernel
theorem dX7_feed_57 : decode cX7_feed 57 = .ok (.l2i, 1) := by decide +kernel
theorem dX7_feed_58 : decode cX7_feed 58 = .ok (.iastore, 1) := by decide +kernel
theorem dX7_feed_59 : decode cX7_feed 59 = .ok (.aload_n 0, 1) := by decide +kernel
theorem dX7_feed_60 : decode cX7_feed 60 = .ok (.dup, 1) := by decide +kernel
theorem dX7_feed_61 : decode cX7_feed 61 = .ok (.getfield 67, 3) := by decide +kernel
theorem dX7_feed_64 : decode cX7_feed 64 = .ok (.iconst 1, 1) := by decide +kernel
theorem dX7_feed_65 : decode cX7_feed 65 = .ok (.iadd, 1) := by decide +kernel
theorem dX7_feed_66 : decode cX7_feed 66 = .ok (.putfield 67, 3) := by decide +kernel
theorem dX7_feed_69 : decode cX7_feed 69 = .ok (.iinc 4 (-1), 3) := by decide +kernel
theorem dX7_feed_72 : decode cX7_feed 72 = .ok (.goto (-39), 3) := by decide +kernel
theorem dX7_feed_75 : decode cX7_feed 75 = .ok (.aload_n 0, 1) := by decide +kernel
theorem dX7_feed_76 : decode cX7_feed 76 = .ok (.getfield 67, 3) := by decide +kernel
theorem dX7_feed_79 : decode cX7_feed 79 = .ok (.ireturn, 1) := by decide +kernel
theorem dX7_set_0 : decode cX7_set 0 = .ok (.iload_n 1, 1) := by decide +kernel
theorem dX7_set_1 : decode cX7_set 1 = .ok (.iconst 0, 1) := by decide +kernel
theorem dX7_set_2 : decode cX7_set 2 = .ok (.aload_n 0, 1) := by decide +kernel
theorem dX7_set_3 : decode cX7_set 3 = .ok (.getfield 67, 3) := by decide +kernel
theorem dX7_set_6 : decode cX7_set 6 = .ok (.iconst 1, 1) := by decide +kernel
theorem dX7_set_7 : decode cX7_set 7 = .ok (.isub, 1) := by decide +kernel
theorem dX7_set_8 : decode cX7_set 8 = .ok (.invokestatic 63, 3) := by decide +kernel
theorem dX7_set_11 : decode cX7_set 11 = .ok (.ifCond .ne 6, 3) := by decide +kernel
theorem dX7_set_14 : decode cX7_set 14 = .ok (.bipush (-2), 2) := by decide +kernel
theorem dX7_set_16 : decode cX7_set 16 = .ok (.ireturn, 1) := by decide +kernel
theorem dX7_cut_0 : decode cX7_cut 0 = .ok (.iload_n 1, 1) := by decide +kernel
theorem dX7_cut_1 : decode cX7_cut 1 = .ok (.iconst 0, 1) := by decide +kernel
theorem dX7_cut_2 : decode cX7_cut 2 = .ok (.aload_n 0, 1) := by decide +kernel
theorem dX7_cut_3 : decode cX7_cut 3 = .ok (.getfield 67, 3) := by decide +kernel
theorem dX7_cut_6 : decode cX7_cut 6 = .ok (.invokestatic 63, 3) := by decide +kernel
theorem dX7_cut_9 : decode cX7_cut 9 = .ok (.ifCond .ne 6, 3) := by decide +kernel
theorem dX7_cut_12 : decode cX7_cut 12 = .ok (.bipush (-3), 2) := by decide +kernel
theorem dX7_cut_14 : decode cX7_cut 14 = .ok (.ireturn, 1) := by decide +kernel
theorem dX7_cut_15 : decode cX7_cut 15 = .ok (.aload_n 0, 1) := by decide +kernel
theorem dX7_cut_16 : decode cX7_cut 16 = .ok (.getfield 67, 3) := by decide +kernel
theorem dX7_cut_19 : decode cX7_cut 19 = .ok (.iload_n 1, 1) := by decide +kernel
theorem dX7_cut_20 : decode cX7_cut 20 = .ok (.isub, 1) := by decide +kernel
theorem dX7_cut_21 : decode cX7_cut 21 = .ok (.istore_n 2, 1) := by decide +kernel
theorem dX7_cut_22 : decode cX7_cut 22 = .ok (.aload_n 0, 1) := by decide +kernel
theorem dX7_cut_23 : decode cX7_cut 23 = .ok (.iload_n 1, 1) := by decide +kernel
theorem dX7_cut_24 : decode cX7_cut 24 = .ok (.putfield 67, 3) := by decide +kernel
theorem dX7_cut_27 : decode cX7_cut 27 = .ok (.iload_n 2, 1) := by decide +kernel
theorem dX7_cut_28 : decode cX7_cut 28 = .ok (.ireturn, 1) := by decide +kernel
theorem dX7_isOpening_0 : decode cX7_isOpening 0 = .ok (.aload_n 0, 1) := by decide +kernel
theorem dX7_isOpening_1 : decode cX7_isOpening 1 = .ok (.getfield 67, 3) := by decide +kernel
theorem dX7_isOpening_4 : decode cX7_isOpening 4 = .ok (.bipush 16, 2) := by decide +kernel
theorem dX7_isOpening_6 : decode cX7_isOpening 6 = .ok (.if_icmp .lt 40, 3) := by decide +kernel
theorem dX7_isOpening_46 : decode cX7_isOpening 46 = .ok (.iconst 0, 1) := by decide +kernel
theorem dX7_isOpening_47 : decode cX7_isOpening 47 = .ok (.istore_n 1, 1) := by decide +kernel
theorem dX7_isOpening_48 : decode cX7_isOpening 48 = .ok (.iconst 4, 1) := by decide +kernel
theorem dX7_isOpening_49 : decode cX7_isOpening 49 = .ok (.istore_n 2, 1) := by decide +kernel
theorem dX7_isOpening_50 : decode cX7_isOpening 50 = .ok (.iload_n 2, 1) := by decide +kernel
theorem dX7_isOpening_51 : decode cX7_isOpening 51 = .ok (.bipush 13, 2) := by decide +kernel
theorem dX7_isOpening_53 : decode cX7_isOpening 53 = .ok (.if_icmp .ge 23, 3) := by decide +kernel
theorem dX7_isOpening_56 : decode cX7_isOpening 56 = .ok (.iload_n 1, 1) := by decide +kernel
theorem dX7_isOpening_57 : decode cX7_isOpening 57 = .ok (.ifCond .eq 19, 3) := by decide +kernel
theorem dX7_isOpening_76 : decode cX7_isOpening 76 = .ok (.iload_n 1, 1) := by decide +kernel
theorem dX7_isOpening_77 : decode cX7_isOpening 77 = .ok (.ifCond .eq 110, 3) := by decide +kernel
theorem dX7_isOpening_187 : decode cX7_isOpening 187 = .ok (.iconst 0, 1) := by decide +kernel
theorem dX7_isOpening_188 : decode cX7_isOpening 188 = .ok (.ireturn, 1) := by decide +kernel
theorem dX7_found_0 : decode cX7_found 0 = .ok (.aload_n 0, 1) := by decide +kernel
theorem dX7_found_1 : decode cX7_found 1 = .ok (.iconst 0, 1) := by decide +kernel
theorem dX7_found_2 : decode cX7_found 2 = .ok (.putfield 119, 3) := by decide +kernel
theorem dX7_found_5 : decode cX7_found 5 = .ok (.aload_n 0, 1) := by decide +kernel
theorem dX7_found_6 : decode cX7_found 6 = .ok (.iload_n 2, 1) := by decide +kernel
theorem dX7_found_7 : decode cX7_found 7 = .ok (.putfield 13, 3) := by decide +kernel
theorem dX7_found_10 : decode cX7_found 10 = .ok (.iload_n 1, 1) := by decide +kernel
theorem dX7_found_11 : decode cX7_found 11 = .ok (.ireturn, 1) := by decide +kernel
theorem dX7_read_0 : decode cX7_read 0 = .ok (.aload_n 0, 1) := by decide +kernel
theorem dX7_read_1 : decode cX7_read 1 = .ok (.invokevirtual 147, 3) := by decide +kernel
theorem dX7_read_4 : decode cX7_read 4 = .ok (.ifCond .ne 10, 3) := by decide +kernel
theorem dX7_read_7 : decode cX7_read 7 = .ok (.aload_n 0, 1) := by decide +kernel
theorem dX7_read_8 : decode cX7_read 8 = .ok (.iconst 1, 1) := by decide +kernel
theorem dX7_read_9 : decode cX7_read 9 = .ok (.iconst 0, 1) := by decide +kernel
theorem dX7_read_10 : decode cX7_read 10 = .ok (.invokevirtual 151, 3) := by decide +kernel
theorem dX7_read_13 : decode cX7_read 13 = .ok (.ireturn, 1) := by decide +kernel
theorem dX7_where_0 : decode cX7_where 0 = .ok (.aload_n 0, 1) := by decide +kernel
theorem dX7_where_1 : decode cX7_where 1 = .ok (.getfield 13, 3) := by decide +kernel
theorem dX7_where_4 : decode cX7_where 4 = .ok (.ireturn, 1) := by decide +kernel
theorem dX7_count_0 : decode cX7_count 0 = .ok (.iload_n 1, 1) := by decide +kernel
theorem dX7_count_1 : decode cX7_count 1 = .ok (.iconst 0, 1) := by decide +kernel
theorem dX7_count_2 : decode cX7_count 2 = .ok (.bipush 6, 2) := by decide +kernel
theorem dX7_count_4 : decode cX7_count 4 = .ok (.invokestatic 63, 3) := by decide +kernel
theorem dX7_count_7 : decode cX7_count 7 = .ok (.ifCond .ne 6, 3) := by decide +kernel
theorem dX7_count_10 : decode cX7_count 10 = .ok (.bipush (-3), 2) := by decide +kernel
theorem dX7_count_12 : decode cX7_count 12 = .ok (.ireturn, 1) := by decide +kernel
theorem dX7_count_13 : decode cX7_count 13 = .ok (.iload_n 1, 1) := by decide +kernel
theorem dX7_count_14 : decode cX7_count 14 = .ok (.iconst 5, 1) := by decide +kernel
theorem dX7_count_15 : decode cX7_count 15 = .ok (.if_icmp .ne 8, 3) := by decide +kernel
theorem dX7_count_18 : decode cX7_count 18 = .ok (.aload_n 0, 1) := by decide +kernel
theorem dX7_count_19 : decode cX7_count 19 = .ok (.getfield 67, 3) := by decide +kernel
theorem dX7_count_22 : decode cX7_count 22 = .ok (.ireturn, 1) := by decide +kernel
theorem dX7_count_23 : decode cX7_count 23 = .ok (.iload_n 1, 1) := by decide +kernel
theorem dX7_count_24 : decode cX7_count 24 = .ok (.bipush 6, 2) := by decide +kernel
theorem dX7_count_26 : decode cX7_count 26 = .ok (.if_icmp .ne 8, 3) := by decide +kernel
theorem dX7_count_29 : decode cX7_count 29 = .ok (.aload_n 0, 1) := by decide +kernel
theorem dX7_count_30 : decode cX7_count 30 = .ok (.getfield 223, 3) := by decide +kernel
theorem dX7_count_33 : decode cX7_count 33 = .ok (.ireturn, 1) := by decide +kernel
theorem dX7_count_34 : decode cX7_count 34 = .ok (.aload_n 0, 1) := by decide +kernel
theorem dX7_count_35 : decode cX7_count 35 = .ok (.getfield 119, 3) := by decide +kernel
theorem dX7_count_38 : decode cX7_count 38 = .ok (.ifCond .ne 6, 3) := by decide +kernel
theorem dX7_count_41 : decode cX7_count 41 = .ok (.bipush (-4), 2) := by decide +kernel
theorem dX7_count_43 : decode cX7_count 43 = .ok (.ireturn, 1) := by decide +kernel
theorem dX7_group_0 : decode cX7_group 0 = .ok (.aload_n 0, 1) := by decide +kernel
theorem dX7_group_1 : decode cX7_group 1 = .ok (.getfield 119, 3) := by decide +kernel
theorem dX7_group_4 : decode cX7_group 4 = .ok (.ifCond .ne 6, 3) := by decide +kernel
theorem dX7_group_7 : decode cX7_group 7 = .ok (.bipush (-4), 2) := by decide +kernel
theorem dX7_group_9 : decode cX7_group 9 = .ok (.ireturn, 1) := by decide +kernel
theorem dX7_setOf_0 : decode cX7_setOf 0 = .ok (.aload_n 0, 1) := by decide +kernel
theorem dX7_setOf_1 : decode cX7_setOf 1 = .ok (.getfield 119, 3) := by decide +kernel
theorem dX7_setOf_4 : decode cX7_setOf 4 = .ok (.ifCond .ne 6, 3) := by decide +kernel
theorem dX7_setOf_7 : decode cX7_setOf 7 = .ok (.bipush (-4), 2) := by decide +kernel
theorem dX7_setOf_9 : decode cX7_setOf 9 = .ok (.ireturn, 1) := by decide +kernel
theorem dX7_fault_0 : decode cX7_fault 0 = .ok (.aload_n 0, 1) := by decide +kernel
theorem dX7_fault_1 : decode cX7_fault 1 = .ok (.getfield 119, 3) := by decide +kernel
theorem dX7_fault_4 : decode cX7_fault 4 = .ok (.ifCond .ne 6, 3) := by decide +kernel
theorem dX7_fault_7 : decode cX7_fault 7 = .ok (.bipush (-4), 2) := by decide +kernel
theorem dX7_fault_9 : decode cX7_fault 9 = .ok (.ireturn, 1) := by decide +kernel
theorem dX7_level_0 : decode cX7_level 0 = .ok (.aload_n 0, 1) := by decide +kernel
theorem dX7_level_1 : decode cX7_level 1 = .ok (.getfield 119, 3) := by decide +kernel
theorem dX7_level_4 : decode cX7_level 4 = .ok (.ifCond .ne 6, 3) := by decide +kernel
theorem dX7_level_7 : decode cX7_level 7 = .ok (.bipush (-4), 2) := by decide +kernel
theorem dX7_level_9 : decode cX7_level 9 = .ok (.ireturn, 1) := by decide +kernel
theorem dX7_claim_0 : decode cX7_claim 0 = .ok (.aload_n 0, 1) := by decide +kernel
theorem dX7_claim_1 : decode cX7_claim 1 = .ok (.getfield 119, 3) := by decide +kernel
theorem dX7_claim_4 : decode cX7_claim 4 = .ok (.ifCond .ne 6, 3) := by decide +kernel
theorem dX7_claim_7 : decode cX7_claim 7 = .ok (.bipush (-4), 2) := by decide +kernel
theorem dX7_claim_9 : decode cX7_claim 9 = .ok (.ireturn, 1) := by decide +kernel
theorem dX7_size_0 : decode cX7_size 0 = .ok (.aload_n 0, 1) := by decide +kernel
theorem dX7_size_1 : decode cX7_size 1 = .ok (.getfield 119, 3) := by decide +kernel
theorem dX7_size_4 : decode cX7_size 4 = .ok (.ifCond .ne 6, 3) := by decide +kernel
theorem dX7_size_7 : decode cX7_size 7 = .ok (.bipush (-4), 2) := by decide +kernel
theorem dX7_size_9 : decode cX7_size 9 = .ok (.ireturn, 1) := by decide +kernel
theorem dX7_byteOf_0 : decode cX7_byteOf 0 = .ok (.aload_n 0, 1) := by decide +kernel
theorem dX7_byteOf_1 : decode cX7_byteOf 1 = .ok (.getfield 119, 3) := by decide +kernel
theorem dX7_byteOf_4 : decode cX7_byteOf 4 = .ok (.ifCond .ne 6, 3) := by decide +kernel
theorem dX7_byteOf_7 : decode cX7_byteOf 7 = .ok (.bipush (-4), 2) := by decide +kernel
theorem dX7_byteOf_9 : decode cX7_byteOf 9 = .ok (.ireturn, 1) := by decide +kernel
theorem dX7_answer_0 : decode cX7_answer 0 = .ok (.aload_n 0, 1) := by decide +kernel
theorem dX7_answer_1 : decode cX7_answer 1 = .ok (.getfield 119, 3) := by decide +kernel
theorem dX7_answer_4 : decode cX7_answer 4 = .ok (.ifCond .ne 6, 3) := by decide +kernel
theorem dX7_answer_7 : decode cX7_answer 7 = .ok (.bipush (-4), 2) := by decide +kernel
theorem dX7_answer_9 : decode cX7_answer 9 = .ok (.ireturn, 1) := by decide +kernel
theorem dX7_answered_0 : decode cX7_answered 0 = .ok (.iload_n 1, 1) := by decide +kernel
theorem dX7_answered_1 : decode cX7_answered 1 = .ok (.iconst 0, 1) := by decide +kernel
theorem dX7_answered_2 : decode cX7_answered 2 = .ok (.aload_n 0, 1) := by decide +kernel
theorem dX7_answered_3 : decode cX7_answered 3 = .ok (.getfield 223, 3) := by decide +kernel
theorem dX7_answered_6 : decode cX7_answered 6 = .ok (.iconst 1, 1) := by decide +kernel
theorem dX7_answered_7 : decode cX7_answered 7 = .ok (.isub, 1) := by decide +kernel
theorem dX7_answered_8 : decode cX7_answered 8 = .ok (.invokestatic 63, 3) := by decide +kernel
theorem dX7_answered_11 : decode cX7_answered 11 = .ok (.ifCond .eq 12, 3) := by decide +kernel
theorem dX7_answered_23 : decode cX7_answered 23 = .ok (.bipush (-2), 2) := by decide +kernel
theorem dX7_answered_25 : decode cX7_answered 25 = .ok (.ireturn, 1) := by decide +kernel
theorem dX7_turn_0 : decode cX7_turn 0 = .ok (.aload_n 0, 1) := by decide +kernel
theorem dX7_turn_1 : decode cX7_turn 1 = .ok (.getfield 223, 3) := by decide +kernel
theorem dX7_turn_4 : decode cX7_turn 4 = .ok (.sipush 1200, 3) := by decide +kernel
theorem dX7_turn_7 : decode cX7_turn 7 = .ok (.if_icmp .le 6, 3) := by decide +kernel
theorem dX7_turn_13 : decode cX7_turn 13 = .ok (.aload_n 0, 1) := by decide +kernel
theorem dX7_turn_14 : decode cX7_turn 14 = .ok (.getfield 223, 3) := by decide +kernel
theorem dX7_turn_17 : decode cX7_turn 17 = .ok (.ifCond .ne 6, 3) := by decide +kernel
theorem dX7_turn_20 : decode cX7_turn 20 = .ok (.bipush (-4), 2) := by decide +kernel
theorem dX7_turn_22 : decode cX7_turn 22 = .ok (.ireturn, 1) := by decide +kernel
theorem dL_law_0 : decode cL_law 0 = .ok (.new 7, 3) := by decide +kernel
theorem dL_law_3 : decode cL_law 3 = .ok (.dup, 1) := by decide +kernel
theorem dL_law_4 : decode cL_law 4 = .ok (.invokespecial 9, 3) := by decide +kernel
theorem dL_law_7 : decode cL_law 7 = .ok (.astore_n 1, 1) := by decide +kernel
theorem dL_law_8 : decode cL_law 8 = .ok (.new 10, 3) := by decide +kernel
theorem dL_law_11 : decode cL_law 11 = .ok (.dup, 1) := by decide +kernel
theorem dL_law_12 : decode cL_law 12 = .ok (.invokespecial 12, 3) := by decide +kernel
theorem dL_law_15 : decode cL_law 15 = .ok (.astore_n 2, 1) := by decide +kernel
theorem dL_law_16 : decode cL_law 16 = .ok (.iconst 0, 1) := by decide +kernel
theorem dL_law_17 : decode cL_law 17 = .ok (.istore_n 3, 1) := by decide +kernel
theorem dL_law_18 : decode cL_law 18 = .ok (.iload_n 3, 1) := by decide +kernel
theorem dL_law_19 : decode cL_law 19 = .ok (.aload_n 0, 1) := by decide +kernel
theorem dL_law_20 : decode cL_law 20 = .ok (.arraylength, 1) := by decide +kernel
theorem dL_law_21 : decode cL_law 21 = .ok (.iconst 4, 1) := by decide +kernel
theorem dL_law_22 : decode cL_law 22 = .ok (.isub, 1) := by decide +kernel
theorem dL_law_23 : decode cL_law 23 = .ok (.if_icmp .gt 583, 3) := by decide +kernel
theorem dL_law_26 : decode cL_law 26 = .ok (.aload_n 0, 1) := by decide +kernel
theorem dL_law_27 : decode cL_law 27 = .ok (.iload_n 3, 1) := by decide +kernel
theorem dL_law_28 : decode cL_law 28 = .ok (.iaload, 1) := by decide +kernel
theorem dL_law_29 : decode cL_law 29 = .ok (.bipush 15, 2) := by decide +kernel
theorem dL_law_31 : decode cL_law 31 = .ok (.iand, 1) := by decide +kernel
theorem dL_law_32 : decode cL_law 32 = .ok (.tableswitch 568 0 15 #[80, 143, 176, 199, 212, 225, 248, 281, 314, 357, 400, 443, 476, 519, 532, 555], 80) := by decide +kernel
theorem dL_law_112 : decode cL_law 112 = .ok (.aload_n 1, 1) := by decide +kernel
theorem dL_law_113 : decode cL_law 113 = .ok (.aload_n 0, 1) := by decide +kernel
theorem dL_law_114 : decode cL_law 114 = .ok (.iload_n 3, 1) := by decide +kernel
theorem dL_law_115 : decode cL_law 115 = .ok (.iconst 1, 1) := by decide +kernel
theorem dL_law_116 : decode cL_law 116 = .ok (.iadd, 1) := by decide +kernel
theorem dL_law_117 : decode cL_law 117 = .ok (.iaload, 1) := by decide +kernel
theorem dL_law_118 : decode cL_law 118 = .ok (.i2l, 1) := by decide +kernel
theorem dL_law_119 : decode cL_law 119 = .ok (.bipush 32, 2) := by decide +kernel
theorem dL_law_121 : decode cL_law 121 = .ok (.lshl, 1) := by decide +kernel
theorem dL_law_122 : decode cL_law 122 = .ok (.aload_n 0, 1) := by decide +kernel
theorem dL_law_123 : decode cL_law 123 = .ok (.iload_n 3, 1) := by decide +kernel
theorem dL_law_124 : decode cL_law 124 = .ok (.iconst 2, 1) := by decide +kernel
theorem dL_law_125 : decode cL_law 125 = .ok (.iadd, 1) := by decide +kernel
theorem dL_law_126 : decode cL_law 126 = .ok (.iaload, 1) := by decide +kernel
theorem dL_law_127 : decode cL_law 127 = .ok (.i2l, 1) := by decide +kernel
theorem dL_law_128 : decode cL_law 128 = .ok (.ldc2_w 13, 3) := by decide +kernel
theorem dL_law_131 : decode cL_law 131 = .ok (.land, 1) := by decide +kernel
theorem dL_law_132 : decode cL_law 132 = .ok (.lor, 1) := by decide +kernel
theorem dL_law_133 : decode cL_law 133 = .ok (.aload_n 0, 1) := by decide +kernel
theorem dL_law_134 : decode cL_law 134 = .ok (.iload_n 3, 1) := by decide +kernel
theorem dL_law_135 : decode cL_law 135 = .ok (.iconst 3, 1) := by decide +kernel
theorem dL_law_136 : decode cL_law 136 = .ok (.iadd, 1) := by decide +kernel
theorem dL_law_137 : decode cL_law 137 = .ok (.iaload, 1) := by decide +kernel
theorem dL_law_138 : decode cL_law 138 = .ok (.invokevirtual 15, 3) := by decide +kernel
theorem dL_law_141 : decode cL_law 141 = .ok (.aload_n 2, 1) := by decide +kernel
theorem dL_law_142 : decode cL_law 142 = .ok (.aload_n 0, 1) := by decide +kernel
theorem dL_law_143 : decode cL_law 143 = .ok (.iload_n 3, 1) := by decide +kernel
theorem dL_law_144 : decode cL_law 144 = .ok (.iconst 1, 1) := by decide +kernel
theorem dL_law_145 : decode cL_law 145 = .ok (.iadd, 1) := by decide +kernel
theorem dL_law_146 : decode cL_law 146 = .ok (.iaload, 1) := by decide +kernel
theorem dL_law_147 : decode cL_law 147 = .ok (.i2l, 1) := by decide +kernel
theorem dL_law_148 : decode cL_law 148 = .ok (.bipush 32, 2) := by decide +kernel
theorem dL_law_150 : decode cL_law 150 = .ok (.lshl, 1) := by decide +kernel
theorem dL_law_151 : decode cL_law 151 = .ok (.aload_n 0, 1) := by decide +kernel
theorem dL_law_152 : decode cL_law 152 = .ok (.iload_n 3, 1) := by decide +kernel
theorem dL_law_153 : decode cL_law 153 = .ok (.iconst 2, 1) := by decide +kernel
theorem dL_law_154 : decode cL_law 154 = .ok (.iadd, 1) := by decide +kernel
theorem dL_law_155 : decode cL_law 155 = .ok (.iaload, 1) := by decide +kernel
theorem dL_law_156 : decode cL_law 156 = .ok (.i2l, 1) := by decide +kernel
theorem dL_law_157 : decode cL_law 157 = .ok (.ldc2_w 13, 3) := by decide +kernel
theorem dL_law_160 : decode cL_law 160 = .ok (.land, 1) := by decide +kernel
theorem dL_law_161 : decode cL_law 161 = .ok (.lor, 1) := by decide +kernel
theorem dL_law_162 : decode cL_law 162 = .ok (.aload_n 0, 1) := by decide +kernel
theorem dL_law_163 : decode cL_law 163 = .ok (.iload_n 3, 1) := by decide +kernel
theorem dL_law_164 : decode cL_law 164 = .ok (.iconst 3, 1) := by decide +kernel
theorem dL_law_165 : decode cL_law 165 = .ok (.iadd, 1) := by decide +kernel
theorem dL_law_166 : decode cL_law 166 = .ok (.iaload, 1) := by decide +kernel
theorem dL_law_167 : decode cL_law 167 = .ok (.invokevirtual 19, 3) := by decide +kernel
theorem dL_law_170 : decode cL_law 170 = .ok (.if_icmp .eq 430, 3) := by decide +kernel
theorem dL_law_175 : decode cL_law 175 = .ok (.aload_n 1, 1) := by decide +kernel
theorem dL_law_176 : decode cL_law 176 = .ok (.aload_n 0, 1) := by decide +kernel
theorem dL_law_177 : decode cL_law 177 = .ok (.iload_n 3, 1) := by decide +kernel
theorem dL_law_178 : decode cL_law 178 = .ok (.iconst 1, 1) := by decide +kernel
theorem dL_law_179 : decode cL_law 179 = .ok (.iadd, 1) := by decide +kernel
theorem dL_law_180 : decode cL_law 180 = .ok (.iaload, 1) := by decide +kernel
theorem dL_law_181 : decode cL_law 181 = .ok (.aload_n 0, 1) := by decide +kernel
theorem dL_law_182 : decode cL_law 182 = .ok (.iload_n 3, 1) := by decide +kernel
theorem dL_law_183 : decode cL_law 183 = .ok (.iconst 2, 1) := by decide +kernel
theorem dL_law_184 : decode cL_law 184 = .ok (.iadd, 1) := by decide +kernel
theorem dL_law_185 : decode cL_law 185 = .ok (.iaload, 1) := by decide +kernel
theorem dL_law_186 : decode cL_law 186 = .ok (.invokevirtual 20, 3) := by decide +kernel
theorem dL_law_189 : decode cL_law 189 = .ok (.aload_n 2, 1) := by decide +kernel
theorem dL_law_190 : decode cL_law 190 = .ok (.aload_n 0, 1) := by decide +kernel
theorem dL_law_191 : decode cL_law 191 = .ok (.iload_n 3, 1) := by decide +kernel
theorem dL_law_192 : decode cL_law 192 = .ok (.iconst 1, 1) := by decide +kernel
theorem dL_law_193 : decode cL_law 193 = .ok (.iadd, 1) := by decide +kernel
theorem dL_law_194 : decode cL_law 194 = .ok (.iaload, 1) := by decide +kernel
theorem dL_law_195 : decode cL_law 195 = .ok (.aload_n 0, 1) := by decide +kernel
theorem dL_law_196 : decode cL_law 196 = .ok (.iload_n 3, 1) := by decide +kernel
theorem dL_law_197 : decode cL_law 197 = .ok (.iconst 2, 1) := by decide +kernel
theorem dL_law_198 : decode cL_law 198 = .ok (.iadd, 1) := by decide +kernel
theorem dL_law_199 : decode cL_law 199 = .ok (.iaload, 1) := by decide +kernel
theorem dL_law_200 : decode cL_law 200 = .ok (.invokevirtual 24, 3) := by decide +kernel
theorem dL_law_203 : decode cL_law 203 = .ok (.if_icmp .eq 397, 3) := by decide +kernel
theorem dL_law_208 : decode cL_law 208 = .ok (.aload_n 1, 1) := by decide +kernel
theorem dL_law_209 : decode cL_law 209 = .ok (.aload_n 0, 1) := by decide +kernel
theorem dL_law_210 : decode cL_law 210 = .ok (.iload_n 3, 1) := by decide +kernel
theorem dL_law_211 : decode cL_law 211 = .ok (.iconst 1, 1) := by decide +kernel
theorem dL_law_212 : decode cL_law 212 = .ok (.iadd, 1) := by decide +kernel
theorem dL_law_213 : decode cL_law 213 = .ok (.iaload, 1) := by decide +kernel
theorem dL_law_214 : decode cL_law 214 = .ok (.invokevirtual 25, 3) := by decide +kernel
theorem dL_law_217 : decode cL_law 217 = .ok (.aload_n 2, 1) := by decide +kernel
theorem dL_law_218 : decode cL_law 218 = .ok (.aload_n 0, 1) := by decide +kernel
theorem dL_law_219 : decode cL_law 219 = .ok (.iload_n 3, 1) := by decide +kernel
theorem dL_law_220 : decode cL_law 220 = .ok (.iconst 1, 1) := by decide +kernel
theorem dL_law_221 : decode cL_law 221 = .ok (.iadd, 1) := by decide +kernel
theorem dL_law_222 : decode cL_law 222 = .ok (.iaload, 1) := by decide +kernel
theorem dL_law_223 : decode cL_law 223 = .ok (.invokevirtual 29, 3) := by decide +kernel
theorem dL_law_226 : decode cL_law 226 = .ok (.if_icmp .eq 374, 3) := by decide +kernel
theorem dL_law_231 : decode cL_law 231 = .ok (.aload_n 1, 1) := by decide +kernel
theorem dL_law_232 : decode cL_law 232 = .ok (.invokevirtual 30, 3) := by decide +kernel
theorem dL_law_235 : decode cL_law 235 = .ok (.aload_n 2, 1) := by decide +kernel
theorem dL_law_236 : decode cL_law 236 = .ok (.invokevirtual 34, 3) := by decide +kernel
theorem dL_law_239 : decode cL_law 239 = .ok (.if_icmp .eq 361, 3) := by decide +kernel
theorem dL_law_244 : decode cL_law 244 = .ok (.aload_n 1, 1) := by decide +kernel
theorem dL_law_245 : decode cL_law 245 = .ok (.invokevirtual 35, 3) := by decide +kernel
theorem dL_law_248 : decode cL_law 248 = .ok (.aload_n 2, 1) := by decide +kernel
theorem dL_law_249 : decode cL_law 249 = .ok (.invokevirtual 38, 3) := by decide +kernel
theorem dL_law_252 : decode cL_law 252 = .ok (.if_icmp .eq 348, 3) := by decide +kernel
theorem dL_law_257 : decode cL_law 257 = .ok (.aload_n 1, 1) := by decide +kernel
theorem dL_law_258 : decode cL_law 258 = .ok (.aload_n 0, 1) := by decide +kernel
theorem dL_law_259 : decode cL_law 259 = .ok (.iload_n 3, 1) := by decide +kernel
theorem dL_law_260 : decode cL_law 260 = .ok (.iconst 1, 1) := by decide +kernel
theorem dL_law_261 : decode cL_law 261 = .ok (.iadd, 1) := by decide +kernel
theorem dL_law_262 : decode cL_law 262 = .ok (.iaload, 1) := by decide +kernel
theorem dL_law_263 : decode cL_law 263 = .ok (.invokevirtual 39, 3) := by decide +kernel
theorem dL_law_266 : decode cL_law 266 = .ok (.aload_n 2, 1) := by decide +kernel
theorem dL_law_267 : decode cL_law 267 = .ok (.aload_n 0, 1) := by decide +kernel
theorem dL_law_268 : decode cL_law 268 = .ok (.iload_n 3, 1) := by decide +kernel
theorem dL_law_269 : decode cL_law 269 = .ok (.iconst 1, 1) := by decide +kernel
theorem dL_law_270 : decode cL_law 270 = .ok (.iadd, 1) := by decide +kernel
theorem dL_law_271 : decode cL_law 271 = .ok (.iaload, 1) := by decide +kernel
theorem dL_law_272 : decode cL_law 272 = .ok (.invokevirtual 42, 3) := by decide +kernel
theorem dL_law_275 : decode cL_law 275 = .ok (.if_icmp .eq 325, 3) := by decide +kernel
theorem dL_law_280 : decode cL_law 280 = .ok (.aload_n 1, 1) := by decide +kernel
theorem dL_law_281 : decode cL_law 281 = .ok (.aload_n 0, 1) := by decide +kernel
theorem dL_law_282 : decode cL_law 282 = .ok (.iload_n 3, 1) := by decide +kernel
theorem dL_law_283 : decode cL_law 283 = .ok (.iconst 1, 1) := by decide +kernel
theorem dL_law_284 : decode cL_law 284 = .ok (.iadd, 1) := by decide +kernel
theorem dL_law_285 : decode cL_law 285 = .ok (.iaload, 1) := by decide +kernel
theorem dL_law_286 : decode cL_law 286 = .ok (.aload_n 0, 1) := by decide +kernel
theorem dL_law_287 : decode cL_law 287 = .ok (.iload_n 3, 1) := by decide +kernel
theorem dL_law_288 : decode cL_law 288 = .ok (.iconst 2, 1) := by decide +kernel
theorem dL_law_289 : decode cL_law 289 = .ok (.iadd, 1) := by decide +kernel
theorem dL_law_290 : decode cL_law 290 = .ok (.iaload, 1) := by decide +kernel
theorem dL_law_291 : decode cL_law 291 = .ok (.invokevirtual 43, 3) := by decide +kernel
theorem dL_law_294 : decode cL_law 294 = .ok (.aload_n 2, 1) := by decide +kernel
theorem dL_law_295 : decode cL_law 295 = .ok (.aload_n 0, 1) := by decide +kernel
theorem dL_law_296 : decode cL_law 296 = .ok (.iload_n 3, 1) := by decide +kernel
theorem dL_law_297 : decode cL_law 297 = .ok (.iconst 1, 1) := by decide +kernel
theorem dL_law_298 : decode cL_law 298 = .ok (.iadd, 1) := by decide +kernel
theorem dL_law_299 : decode cL_law 299 = .ok (.iaload, 1) := by decide +kernel
theorem dL_law_300 : decode cL_law 300 = .ok (.aload_n 0, 1) := by decide +kernel
theorem dL_law_301 : decode cL_law 301 = .ok (.iload_n 3, 1) := by decide +kernel
theorem dL_law_302 : decode cL_law 302 = .ok (.iconst 2, 1) := by decide +kernel
theorem dL_law_303 : decode cL_law 303 = .ok (.iadd, 1) := by decide +kernel
theorem dL_law_304 : decode cL_law 304 = .ok (.iaload, 1) := by decide +kernel
theorem dL_law_305 : decode cL_law 305 = .ok (.invokevirtual 46, 3) := by decide +kernel
theorem dL_law_308 : decode cL_law 308 = .ok (.if_icmp .eq 292, 3) := by decide +kernel
theorem dL_law_313 : decode cL_law 313 = .ok (.aload_n 1, 1) := by decide +kernel
theorem dL_law_314 : decode cL_law 314 = .ok (.aload_n 0, 1) := by decide +kernel
theorem dL_law_315 : decode cL_law 315 = .ok (.iload_n 3, 1) := by decide +kernel
theorem dL_law_316 : decode cL_law 316 = .ok (.iconst 1, 1) := by decide +kernel
theorem dL_law_317 : decode cL_law 317 = .ok (.iadd, 1) := by decide +kernel
theorem dL_law_318 : decode cL_law 318 = .ok (.iaload, 1) := by decide +kernel
theorem dL_law_319 : decode cL_law 319 = .ok (.aload_n 0, 1) := by decide +kernel
theorem dL_law_320 : decode cL_law 320 = .ok (.iload_n 3, 1) := by decide +kernel
theorem dL_law_321 : decode cL_law 321 = .ok (.iconst 2, 1) := by decide +kernel
theorem dL_law_322 : decode cL_law 322 = .ok (.iadd, 1) := by decide +kernel
theorem dL_law_323 : decode cL_law 323 = .ok (.iaload, 1) := by decide +kernel
theorem dL_law_324 : decode cL_law 324 = .ok (.invokevirtual 47, 3) := by decide +kernel
theorem dL_law_327 : decode cL_law 327 = .ok (.aload_n 2, 1) := by decide +kernel
theorem dL_law_328 : decode cL_law 328 = .ok (.aload_n 0, 1) := by decide +kernel
theorem dL_law_329 : decode cL_law 329 = .ok (.iload_n 3, 1) := by decide +kernel
theorem dL_law_330 : decode cL_law 330 = .ok (.iconst 1, 1) := by decide +kernel
theorem dL_law_331 : decode cL_law 331 = .ok (.iadd, 1) := by decide +kernel
theorem dL_law_332 : decode cL_law 332 = .ok (.iaload, 1) := by decide +kernel
theorem dL_law_333 : decode cL_law 333 = .ok (.aload_n 0, 1) := by decide +kernel
theorem dL_law_334 : decode cL_law 334 = .ok (.iload_n 3, 1) := by decide +kernel
theorem dL_law_335 : decode cL_law 335 = .ok (.iconst 2, 1) := by decide +kernel
theorem dL_law_336 : decode cL_law 336 = .ok (.iadd, 1) := by decide +kernel
theorem dL_law_337 : decode cL_law 337 = .ok (.iaload, 1) := by decide +kernel
theorem dL_law_338 : decode cL_law 338 = .ok (.invokevirtual 50, 3) := by decide +kernel
theorem dL_law_341 : decode cL_law 341 = .ok (.if_icmp .eq 259, 3) := by decide +kernel
theorem dL_law_346 : decode cL_law 346 = .ok (.aload_n 1, 1) := by decide +kernel
theorem dL_law_347 : decode cL_law 347 = .ok (.aload_n 0, 1) := by decide +kernel
theorem dL_law_348 : decode cL_law 348 = .ok (.iload_n 3, 1) := by decide +kernel
theorem dL_law_349 : decode cL_law 349 = .ok (.iconst 1, 1) := by decide +kernel
theorem dL_law_350 : decode cL_law 350 = .ok (.iadd, 1) := by decide +kernel
theorem dL_law_351 : decode cL_law 351 = .ok (.iaload, 1) := by decide +kernel
theorem dL_law_352 : decode cL_law 352 = .ok (.aload_n 0, 1) := by decide +kernel
theorem dL_law_353 : decode cL_law 353 = .ok (.iload_n 3, 1) := by decide +kernel
theorem dL_law_354 : decode cL_law 354 = .ok (.iconst 2, 1) := by decide +kernel
theorem dL_law_355 : decode cL_law 355 = .ok (.iadd, 1) := by decide +kernel
theorem dL_law_356 : decode cL_law 356 = .ok (.iaload, 1) := by decide +kernel
theorem dL_law_357 : decode cL_law 357 = .ok (.aload_n 0, 1) := by decide +kernel
theorem dL_law_358 : decode cL_law 358 = .ok (.iload_n 3, 1) := by decide +kernel
theorem dL_law_359 : decode cL_law 359 = .ok (.iconst 3, 1) := by decide +kernel
theorem dL_law_360 : decode cL_law 360 = .ok (.iadd, 1) := by decide +kernel
theorem dL_law_361 : decode cL_law 361 = .ok (.iaload, 1) := by decide +kernel
theorem dL_law_362 : decode cL_law 362 = .ok (.invokevirtual 51, 3) := by decide +kernel
theorem dL_law_365 : decode cL_law 365 = .ok (.aload_n 2, 1) := by decide +kernel
theorem dL_law_366 : decode cL_law 366 = .ok (.aload_n 0, 1) := by decide +kernel
theorem dL_law_367 : decode cL_law 367 = .ok (.iload_n 3, 1) := by decide +kernel
theorem dL_law_368 : decode cL_law 368 = .ok (.iconst 1, 1) := by decide +kernel
theorem dL_law_369 : decode cL_law 369 = .ok (.iadd, 1) := by decide +kernel
theorem dL_law_370 : decode cL_law 370 = .ok (.iaload, 1) := by decide +kernel
theorem dL_law_371 : decode cL_law 371 = .ok (.aload_n 0, 1) := by decide +kernel
theorem dL_law_372 : decode cL_law 372 = .ok (.iload_n 3, 1) := by decide +kernel
theorem dL_law_373 : decode cL_law 373 = .ok (.iconst 2, 1) := by decide +kernel
theorem dL_law_374 : decode cL_law 374 = .ok (.iadd, 1) := by decide +kernel
theorem dL_law_375 : decode cL_law 375 = .ok (.iaload, 1) := by decide +kernel
theorem dL_law_376 : decode cL_law 376 = .ok (.aload_n 0, 1) := by decide +kernel
theorem dL_law_377 : decode cL_law 377 = .ok (.iload_n 3, 1) := by decide +kernel
theorem dL_law_378 : decode cL_law 378 = .ok (.iconst 3, 1) := by decide +kernel
theorem dL_law_379 : decode cL_law 379 = .ok (.iadd, 1) := by decide +kernel
theorem dL_law_380 : decode cL_law 380 = .ok (.iaload, 1) := by decide +kernel
theorem dL_law_381 : decode cL_law 381 = .ok (.invokevirtual 55, 3) := by decide +kernel
theorem dL_law_384 : decode cL_law 384 = .ok (.if_icmp .eq 216, 3) := by decide +kernel
theorem dL_law_389 : decode cL_law 389 = .ok (.aload_n 1, 1) := by decide +kernel
theorem dL_law_390 : decode cL_law 390 = .ok (.aload_n 0, 1) := by decide +kernel
theorem dL_law_391 : decode cL_law 391 = .ok (.iload_n 3, 1) := by decide +kernel
theorem dL_law_392 : decode cL_law 392 = .ok (.iconst 1, 1) := by decide +kernel
theorem dL_law_393 : decode cL_law 393 = .ok (.iadd, 1) := by decide +kernel
theorem dL_law_394 : decode cL_law 394 = .ok (.iaload, 1) := by decide +kernel
theorem dL_law_395 : decode cL_law 395 = .ok (.aload_n 0, 1) := by decide +kernel
theorem dL_law_396 : decode cL_law 396 = .ok (.iload_n 3, 1) := by decide +kernel
theorem dL_law_397 : decode cL_law 397 = .ok (.iconst 2, 1) := by decide +kernel
theorem dL_law_398 : decode cL_law 398 = .ok (.iadd, 1) := by decide +kernel
theorem dL_law_399 : decode cL_law 399 = .ok (.iaload, 1) := by decide +kernel
theorem dL_law_400 : decode cL_law 400 = .ok (.aload_n 0, 1) := by decide +kernel
theorem dL_law_401 : decode cL_law 401 = .ok (.iload_n 3, 1) := by decide +kernel
theorem dL_law_402 : decode cL_law 402 = .ok (.iconst 3, 1) := by decide +kernel
theorem dL_law_403 : decode cL_law 403 = .ok (.iadd, 1) := by decide +kernel
theorem dL_law_404 : decode cL_law 404 = .ok (.iaload, 1) := by decide +kernel
theorem dL_law_405 : decode cL_law 405 = .ok (.invokevirtual 56, 3) := by decide +kernel
theorem dL_law_408 : decode cL_law 408 = .ok (.aload_n 2, 1) := by decide +kernel
theorem dL_law_409 : decode cL_law 409 = .ok (.aload_n 0, 1) := by decide +kernel
theorem dL_law_410 : decode cL_law 410 = .ok (.iload_n 3, 1) := by decide +kernel
theorem dL_law_411 : decode cL_law 411 = .ok (.iconst 1, 1) := by decide +kernel
theorem dL_law_412 : decode cL_law 412 = .ok (.iadd, 1) := by decide +kernel
theorem dL_law_413 : decode cL_law 413 = .ok (.iaload, 1) := by decide +kernel
theorem dL_law_414 : decode cL_law 414 = .ok (.aload_n 0, 1) := by decide +kernel
theorem dL_law_415 : decode cL_law 415 = .ok (.iload_n 3, 1) := by decide +kernel
theorem dL_law_416 : decode cL_law 416 = .ok (.iconst 2, 1) := by decide +kernel
theorem dL_law_417 : decode cL_law 417 = .ok (.iadd, 1) := by decide +kernel
theorem dL_law_418 : decode cL_law 418 = .ok (.iaload, 1) := by decide +kernel
theorem dL_law_419 : decode cL_law 419 = .ok (.aload_n 0, 1) := by decide +kernel
theorem dL_law_420 : decode cL_law 420 = .ok (.iload_n 3, 1) := by decide +kernel
theorem dL_law_421 : decode cL_law 421 = .ok (.iconst 3, 1) := by decide +kernel
theorem dL_law_422 : decode cL_law 422 = .ok (.iadd, 1) := by decide +kernel
theorem dL_law_423 : decode cL_law 423 = .ok (.iaload, 1) := by decide +kernel
theorem dL_law_424 : decode cL_law 424 = .ok (.invokevirtual 59, 3) := by decide +kernel
theorem dL_law_427 : decode cL_law 427 = .ok (.if_icmp .eq 173, 3) := by decide +kernel
theorem dL_law_432 : decode cL_law 432 = .ok (.aload_n 1, 1) := by decide +kernel
theorem dL_law_433 : decode cL_law 433 = .ok (.aload_n 0, 1) := by decide +kernel
theorem dL_law_434 : decode cL_law 434 = .ok (.iload_n 3, 1) := by decide +kernel
theorem dL_law_435 : decode cL_law 435 = .ok (.iconst 1, 1) := by decide +kernel
theorem dL_law_436 : decode cL_law 436 = .ok (.iadd, 1) := by decide +kernel
theorem dL_law_437 : decode cL_law 437 = .ok (.iaload, 1) := by decide +kernel
theorem dL_law_438 : decode cL_law 438 = .ok (.aload_n 0, 1) := by decide +kernel
theorem dL_law_439 : decode cL_law 439 = .ok (.iload_n 3, 1) := by decide +kernel
theorem dL_law_440 : decode cL_law 440 = .ok (.iconst 2, 1) := by decide +kernel
theorem dL_law_441 : decode cL_law 441 = .ok (.iadd, 1) := by decide +kernel
theorem dL_law_442 : decode cL_law 442 = .ok (.iaload, 1) := by decide +kernel
theorem dL_law_443 : decode cL_law 443 = .ok (.aload_n 0, 1) := by decide +kernel
theorem dL_law_444 : decode cL_law 444 = .ok (.iload_n 3, 1) := by decide +kernel
theorem dL_law_445 : decode cL_law 445 = .ok (.iconst 3, 1) := by decide +kernel
theorem dL_law_446 : decode cL_law 446 = .ok (.iadd, 1) := by decide +kernel
theorem dL_law_447 : decode cL_law 447 = .ok (.iaload, 1) := by decide +kernel
theorem dL_law_448 : decode cL_law 448 = .ok (.invokevirtual 60, 3) := by decide +kernel
theorem dL_law_451 : decode cL_law 451 = .ok (.aload_n 2, 1) := by decide +kernel
theorem dL_law_452 : decode cL_law 452 = .ok (.aload_n 0, 1) := by decide +kernel
theorem dL_law_453 : decode cL_law 453 = .ok (.iload_n 3, 1) := by decide +kernel
theorem dL_law_454 : decode cL_law 454 = .ok (.iconst 1, 1) := by decide +kernel
theorem dL_law_455 : decode cL_law 455 = .ok (.iadd, 1) := by decide +kernel
theorem dL_law_456 : decode cL_law 456 = .ok (.iaload, 1) := by decide +kernel
theorem dL_law_457 : decode cL_law 457 = .ok (.aload_n 0, 1) := by decide +kernel
theorem dL_law_458 : decode cL_law 458 = .ok (.iload_n 3, 1) := by decide +kernel
theorem dL_law_459 : decode cL_law 459 = .ok (.iconst 2, 1) := by decide +kernel
theorem dL_law_460 : decode cL_law 460 = .ok (.iadd, 1) := by decide +kernel
theorem dL_law_461 : decode cL_law 461 = .ok (.iaload, 1) := by decide +kernel
theorem dL_law_462 : decode cL_law 462 = .ok (.aload_n 0, 1) := by decide +kernel
theorem dL_law_463 : decode cL_law 463 = .ok (.iload_n 3, 1) := by decide +kernel
theorem dL_law_464 : decode cL_law 464 = .ok (.iconst 3, 1) := by decide +kernel
theorem dL_law_465 : decode cL_law 465 = .ok (.iadd, 1) := by decide +kernel
theorem dL_law_466 : decode cL_law 466 = .ok (.iaload, 1) := by decide +kernel
theorem dL_law_467 : decode cL_law 467 = .ok (.invokevirtual 63, 3) := by decide +kernel
theorem dL_law_470 : decode cL_law 470 = .ok (.if_icmp .eq 130, 3) := by decide +kernel
theorem dL_law_475 : decode cL_law 475 = .ok (.aload_n 1, 1) := by decide +kernel
theorem dL_law_476 : decode cL_law 476 = .ok (.aload_n 0, 1) := by decide +kernel
theorem dL_law_477 : decode cL_law 477 = .ok (.iload_n 3, 1) := by decide +kernel
theorem dL_law_478 : decode cL_law 478 = .ok (.iconst 1, 1) := by decide +kernel
theorem dL_law_479 : decode cL_law 479 = .ok (.iadd, 1) := by decide +kernel
theorem dL_law_480 : decode cL_law 480 = .ok (.iaload, 1) := by decide +kernel
theorem dL_law_481 : decode cL_law 481 = .ok (.aload_n 0, 1) := by decide +kernel
theorem dL_law_482 : decode cL_law 482 = .ok (.iload_n 3, 1) := by decide +kernel
theorem dL_law_483 : decode cL_law 483 = .ok (.iconst 2, 1) := by decide +kernel
theorem dL_law_484 : decode cL_law 484 = .ok (.iadd, 1) := by decide +kernel
theorem dL_law_485 : decode cL_law 485 = .ok (.iaload, 1) := by decide +kernel
theorem dL_law_486 : decode cL_law 486 = .ok (.invokevirtual 64, 3) := by decide +kernel
theorem dL_law_489 : decode cL_law 489 = .ok (.aload_n 2, 1) := by decide +kernel
theorem dL_law_490 : decode cL_law 490 = .ok (.aload_n 0, 1) := by decide +kernel
theorem dL_law_491 : decode cL_law 491 = .ok (.iload_n 3, 1) := by decide +kernel
theorem dL_law_492 : decode cL_law 492 = .ok (.iconst 1, 1) := by decide +kernel
theorem dL_law_493 : decode cL_law 493 = .ok (.iadd, 1) := by decide +kernel
theorem dL_law_494 : decode cL_law 494 = .ok (.iaload, 1) := by decide +kernel
theorem dL_law_495 : decode cL_law 495 = .ok (.aload_n 0, 1) := by decide +kernel
theorem dL_law_496 : decode cL_law 496 = .ok (.iload_n 3, 1) := by decide +kernel
theorem dL_law_497 : decode cL_law 497 = .ok (.iconst 2, 1) := by decide +kernel
theorem dL_law_498 : decode cL_law 498 = .ok (.iadd, 1) := by decide +kernel
theorem dL_law_499 : decode cL_law 499 = .ok (.iaload, 1) := by decide +kernel
theorem dL_law_500 : decode cL_law 500 = .ok (.invokevirtual 67, 3) := by decide +kernel
theorem dL_law_503 : decode cL_law 503 = .ok (.if_icmp .eq 97, 3) := by decide +kernel
theorem dL_law_508 : decode cL_law 508 = .ok (.aload_n 1, 1) := by decide +kernel
theorem dL_law_509 : decode cL_law 509 = .ok (.aload_n 0, 1) := by decide +kernel
theorem dL_law_510 : decode cL_law 510 = .ok (.iload_n 3, 1) := by decide +kernel
theorem dL_law_511 : decode cL_law 511 = .ok (.iconst 1, 1) := by decide +kernel
theorem dL_law_512 : decode cL_law 512 = .ok (.iadd, 1) := by decide +kernel
theorem dL_law_513 : decode cL_law 513 = .ok (.iaload, 1) := by decide +kernel
theorem dL_law_514 : decode cL_law 514 = .ok (.aload_n 0, 1) := by decide +kernel
theorem dL_law_515 : decode cL_law 515 = .ok (.iload_n 3, 1) := by decide +kernel
theorem dL_law_516 : decode cL_law 516 = .ok (.iconst 2, 1) := by decide +kernel
theorem dL_law_517 : decode cL_law 517 = .ok (.iadd, 1) := by decide +kernel
theorem dL_law_518 : decode cL_law 518 = .ok (.iaload, 1) := by decide +kernel
theorem dL_law_519 : decode cL_law 519 = .ok (.aload_n 0, 1) := by decide +kernel
theorem dL_law_520 : decode cL_law 520 = .ok (.iload_n 3, 1) := by decide +kernel
theorem dL_law_521 : decode cL_law 521 = .ok (.iconst 3, 1) := by decide +kernel
theorem dL_law_522 : decode cL_law 522 = .ok (.iadd, 1) := by decide +kernel
theorem dL_law_523 : decode cL_law 523 = .ok (.iaload, 1) := by decide +kernel
theorem dL_law_524 : decode cL_law 524 = .ok (.invokevirtual 68, 3) := by decide +kernel
theorem dL_law_527 : decode cL_law 527 = .ok (.aload_n 2, 1) := by decide +kernel
theorem dL_law_528 : decode cL_law 528 = .ok (.aload_n 0, 1) := by decide +kernel
theorem dL_law_529 : decode cL_law 529 = .ok (.iload_n 3, 1) := by decide +kernel
theorem dL_law_530 : decode cL_law 530 = .ok (.iconst 1, 1) := by decide +kernel
theorem dL_law_531 : decode cL_law 531 = .ok (.iadd, 1) := by decide +kernel
theorem dL_law_532 : decode cL_law 532 = .ok (.iaload, 1) := by decide +kernel
theorem dL_law_533 : decode cL_law 533 = .ok (.aload_n 0, 1) := by decide +kernel
theorem dL_law_534 : decode cL_law 534 = .ok (.iload_n 3, 1) := by decide +kernel
theorem dL_law_535 : decode cL_law 535 = .ok (.iconst 2, 1) := by decide +kernel
theorem dL_law_536 : decode cL_law 536 = .ok (.iadd, 1) := by decide +kernel
theorem dL_law_537 : decode cL_law 537 = .ok (.iaload, 1) := by decide +kernel
theorem dL_law_538 : decode cL_law 538 = .ok (.aload_n 0, 1) := by decide +kernel
theorem dL_law_539 : decode cL_law 539 = .ok (.iload_n 3, 1) := by decide +kernel
theorem dL_law_540 : decode cL_law 540 = .ok (.iconst 3, 1) := by decide +kernel
theorem dL_law_541 : decode cL_law 541 = .ok (.iadd, 1) := by decide +kernel
theorem dL_law_542 : decode cL_law 542 = .ok (.iaload, 1) := by decide +kernel
theorem dL_law_543 : decode cL_law 543 = .ok (.invokevirtual 71, 3) := by decide +kernel
theorem dL_law_546 : decode cL_law 546 = .ok (.if_icmp .eq 54, 3) := by decide +kernel
theorem dL_law_551 : decode cL_law 551 = .ok (.aload_n 1, 1) := by decide +kernel
theorem dL_law_552 : decode cL_law 552 = .ok (.invokevirtual 72, 3) := by decide +kernel
theorem dL_law_555 : decode cL_law 555 = .ok (.aload_n 2, 1) := by decide +kernel
theorem dL_law_556 : decode cL_law 556 = .ok (.invokevirtual 75, 3) := by decide +kernel
theorem dL_law_559 : decode cL_law 559 = .ok (.if_icmp .eq 41, 3) := by decide +kernel
theorem dL_law_564 : decode cL_law 564 = .ok (.aload_n 1, 1) := by decide +kernel
theorem dL_law_565 : decode cL_law 565 = .ok (.aload_n 0, 1) := by decide +kernel
theorem dL_law_566 : decode cL_law 566 = .ok (.iload_n 3, 1) := by decide +kernel
theorem dL_law_567 : decode cL_law 567 = .ok (.iconst 1, 1) := by decide +kernel
theorem dL_law_568 : decode cL_law 568 = .ok (.iadd, 1) := by decide +kernel
theorem dL_law_569 : decode cL_law 569 = .ok (.iaload, 1) := by decide +kernel
theorem dL_law_570 : decode cL_law 570 = .ok (.invokevirtual 76, 3) := by decide +kernel
theorem dL_law_573 : decode cL_law 573 = .ok (.aload_n 2, 1) := by decide +kernel
theorem dL_law_574 : decode cL_law 574 = .ok (.aload_n 0, 1) := by decide +kernel
theorem dL_law_575 : decode cL_law 575 = .ok (.iload_n 3, 1) := by decide +kernel
theorem dL_law_576 : decode cL_law 576 = .ok (.iconst 1, 1) := by decide +kernel
theorem dL_law_577 : decode cL_law 577 = .ok (.iadd, 1) := by decide +kernel
theorem dL_law_578 : decode cL_law 578 = .ok (.iaload, 1) := by decide +kernel
theorem dL_law_579 : decode cL_law 579 = .ok (.invokevirtual 79, 3) := by decide +kernel
theorem dL_law_582 : decode cL_law 582 = .ok (.if_icmp .eq 18, 3) := by decide +kernel
theorem dL_law_587 : decode cL_law 587 = .ok (.aload_n 1, 1) := by decide +kernel
theorem dL_law_588 : decode cL_law 588 = .ok (.invokevirtual 80, 3) := by decide +kernel
theorem dL_law_591 : decode cL_law 591 = .ok (.aload_n 2, 1) := by decide +kernel
theorem dL_law_592 : decode cL_law 592 = .ok (.invokevirtual 83, 3) := by decide +kernel
theorem dL_law_595 : decode cL_law 595 = .ok (.if_icmp .eq 5, 3) := by decide +kernel
theorem dL_law_600 : decode cL_law 600 = .ok (.iinc 3 4, 3) := by decide +kernel
theorem dL_law_603 : decode cL_law 603 = .ok (.goto (-585), 3) := by decide +kernel
theorem dL_law_606 : decode cL_law 606 = .ok (.iconst 1, 1) := by decide +kernel
theorem dL_law_607 : decode cL_law 607 = .ok (.ireturn, 1) := by decide +kernel
end
section
section PF
variable {p : Program} {l : Launch} {e : Env} {R : Room} {s : State} {m : MethodId} {args : Array Value} {below : List Frame} {meth : Method} {c : Code} {H : Heap} {locs : List Loc} {cells slots : Nat} {Q : State → Prop} {pc : Nat} {ls : Array Slot} {rest : List Value}
/-- the top of the stack under another, equal, text -/
theorem pf_top {x : Int32} {y : Int32} (h : x = y) (k : W p l e R s m args below meth c H locs cells slots Q (F0 m pc ls (.int y :: rest))) : W p l e R s m args below meth c H locs cells slots Q (F0 m pc ls (.int x :: rest)) := h ▸ k
end PF
/-- what each call answers on a fresh object, where it hangs on an argument -/
def pf_in (v a b : Int32) : Int32 := if v < a then 0 else if b < v then 0 else 1
def pf_feed (n : Int32) : Int32 := if n < 1 then -3 else if n ≤ 8 then n else -3
def pf_cut (n : Int32) : Int32 := if n < 0 then -3 else if n ≤ 0 then 0 else -3
def pf_count (w : Int32) : Int32 := if w < 0 then -3 else if w ≤ 6 then (if w = 5 then 0 else if w = 6 then 0 else -4) else -3
theorem pf_in_0 {v a b : Int32} (h : pf_in v a b = 0) : v < a ∨ b < v := by
  unfold pf_in at h
  by_cases h1 : v < a
  · exact Or.inl h1
  · by_cases h2 : b < v
    · exact Or.inr h2
    · rw [if_neg h1, if_neg h2] at h
      exact absurd h (by decide)
theorem pf_in_1 {v a b : Int32} (h : ¬ pf_in v a b = 0) : ¬ v < a ∧ v ≤ b := by
  unfold pf_in at h
  by_cases h1 : v < a
  · rw [if_pos h1] at h
    exact absurd rfl h
  · by_cases h2 : b < v
    · rw [if_neg h1, if_pos h2] at h
      exact absurd rfl h
    · exact ⟨h1, Int32.not_lt.mp h2⟩
theorem pf_in_m1 (k : Int32) : pf_in k 0 (-1) = 0 := by
  unfold pf_in
  by_cases h1 : k < 0
  · rw [if_pos h1]
  · have h2 : (-1 : Int32) < k := by
      rw [Int32.lt_iff_toInt_lt] at h1 ⊢
      have e0 : (0 : Int32).toInt = 0 := by decide
      have e1 : (-1 : Int32).toInt = -1 := by decide
      omega
    rw [if_neg h1, if_pos h2]
theorem pf_sub0 {k : Int32} (h1 : ¬ k < 0) (h2 : k ≤ 0) : 0 - k = 0 := by
  have e : k = 0 := Int32.le_antisymm h2 (Int32.not_lt.mp h1)
  rw [e]
  decide
theorem pf_dec (x : Int32) : x + Int32.ofInt (-1) = x - 1 := by
  rw [Int32.sub_eq_add_neg]
  rfl
theorem pf_small {k : Int32} (h1 : ¬ k < 1) (h2 : k ≤ 8) : ∃ n : Nat, n ≤ 8 ∧ k = nI n := nI_of2 (M := 8) (by decide) (by
  intro h
  rw [Int32.lt_iff_toInt_lt] at h h1
  have e0 : (0 : Int32).toInt = 0 := by decide
  have e1 : (1 : Int32).toInt = 1 := by decide
  omega) h2
theorem pf_small2 {k : Int32} (h : ¬ pf_in k 1 8 = 0) : ∃ n : Nat, n ≤ 8 ∧ k = nI n := pf_small (pf_in_1 h).1 (pf_in_1 h).2
theorem pf_le1200 {k : Int32} (h : k ≤ 8) : k ≤ 1200 := by
  rw [Int32.le_iff_toInt_le] at h ⊢
  have e0 : (8 : Int32).toInt = 8 := by decide
  have e1 : (1200 : Int32).toInt = 1200 := by decide
  omega
theorem pf_le1200b {k : Int32} (h : ¬ pf_in k 1 8 = 0) : k ≤ 1200 := pf_le1200 (pf_in_1 h).2
theorem pf_feed_out {k : Int32} (h : pf_in k 1 8 = 0) : pf_feed k = -3 := by
  unfold pf_feed
  rcases pf_in_0 h with q | q
  · rw [if_pos q]
  · by_cases h1 : k < 1
    · rw [if_pos h1]
    · rw [if_neg h1, if_neg (Int32.not_le.mpr q)]
theorem pf_feed_in {k : Int32} (h : ¬ pf_in k 1 8 = 0) : pf_feed k = k := by
  unfold pf_feed
  rw [if_neg (pf_in_1 h).1, if_pos (pf_in_1 h).2]
theorem pf_cut_out {k : Int32} (h : pf_in k 0 0 = 0) : pf_cut k = -3 := by
  unfold pf_cut
  rcases pf_in_0 h with q | q
  · rw [if_pos q]
  · by_cases h1 : k < 0
    · rw [if_pos h1]
    · rw [if_neg h1, if_neg (Int32.not_le.mpr q)]
theorem pf_cut_in {k : Int32} (h : ¬ pf_in k 0 0 = 0) : pf_cut k = 0 := by
  unfold pf_cut
  rw [if_neg (pf_in_1 h).1, if_pos (pf_in_1 h).2]
theorem pf_cut_k {k : Int32} (h : ¬ pf_in k 0 0 = 0) : 0 - k = 0 := pf_sub0 (pf_in_1 h).1 (pf_in_1 h).2
theorem pf_count_out {k : Int32} (h : pf_in k 0 6 = 0) : pf_count k = -3 := by
  unfold pf_count
  rcases pf_in_0 h with q | q
  · rw [if_pos q]
  · by_cases h1 : k < 0
    · rw [if_pos h1]
    · rw [if_neg h1, if_neg (Int32.not_le.mpr q)]
theorem pf_count_in {k : Int32} (h : ¬ pf_in k 0 6 = 0) : pf_count k = (if k = 5 then 0 else if k = 6 then 0 else -4) := by
  unfold pf_count
  rw [if_neg (pf_in_1 h).1, if_pos (pf_in_1 h).2]
end
section
set_option maxHeartbeats 4000000 in
set_option maxRecDepth 100000 in
/-- Bytes(room): a row of so many bytes -/
theorem c_X0_init (l : Launch) (dC : Nat → ClassId) (dI : Nat → Nat → Nat) (sz : Nat) (a0 : Nat) (room : Int32) (n : Nat) (g1 : ¬ room < 0) (g2 : room.toNatClampNeg = n) (g3 : n ≤ 2000) : Met l yX0_init pwX0_init ({ frames := 1, cells := 1, slots := n, locals := 20 } : Room) (va_Pc [.ref a0, .int room] (fun U => U.heap.size = sz ∧ va_P (dC, dI) vwCl [(a0, .inr (0, [.null, .int 0]))] U.heap ∧ va_K (dC, dI) vwCl [] U ∧ va_D (fun _ => True) [(a0, .inr (0, [.null, .int 0]))])) (va_Qv (fun _ : Unit => True) (fun (_ : Unit) (t : State) => ∃ (qa : Nat) (cA : ClassId), va_P (dC, dI) vwCl [(a0, .inr (0, [.ref qa, .int 0])), (qa, .inl (cA, n, .inl (fun _ => 0)))] t.heap ∧ va_K (dC, dI) vwCl [(cA, .byte)] t ∧ va_D (va_A [(a0, .inr (0, [.null, .int 0]))] sz) [(a0, .inr (0, [.ref qa, .int 0])), (qa, .inl (cA, n, .inl (fun _ => 0)))]) (va_A [(a0, .inr (0, [.null, .int 0]))] sz)) 1 n (va_A [(a0, .inr (0, [.null, .int 0]))] sz) := by
  refine Met.ofW (cc := cX0_init) (maxL := 2) (ret := none) (by decide) rfl ?_
  intro p e s m args below meth c s₁ B hml hv
  obtain ⟨rfl, hsz, hP, hK, hD0⟩ := hv
  have hx := B.exec
  have hb := B.bytes
  have hr := B.returns
  have hts0 := atoms_spec (ws := pwX0_init) B.pre
  have hts := fun w (h : w ∈ pwAll) => hts0 w (List.mem_cons_of_mem _ h)
  have hown : s.vm.findClass RX0 = some m.cls := findClass_of_methodNamed B.named
  have hlocks := B.notSynchronized
  have hin : meth.name = "<init>" := (name_of_methodNamed B.named B.method).1
  subst hsz
  have hD := hD0.self (sz := s.heap.size)
  generalize hAe : va_A [(a0, .inr (0, [.null, .int 0]))] s.heap.size = A at hD ⊢
  have hA : ∀ q : Nat, s.heap.size ≤ q → A q := fun q h => by rw [← hAe]; exact Or.inr h
  have hS : va_S A s.heap s.heap [] := va_S.rf
  have hP : va_P (dC, dI) vwCl [(a0, .inr (0, [.null, .int 0]))] s.heap := hP
  have hl := lv_entry ([.ref a0, .int room]) (n := 2) (Nat.le_of_ble_eq_true rfl)
  rw [lg_entry_eq]
  generalize (lg_sl ([.ref a0, .int room]) ++ List.replicate (2 - (lg_sl ([.ref a0, .int room])).length) Slot.unset).toArray = ls at hl ⊢
  have hl : lv_has ls 2 [(0, .ref a0), (1, .int room)] := hl
  refine lv_aload_n hx hb dX0_init_0 rfl (lv_at hl 0 rfl) ?_
  refine W.objInit hx hb hown (hts (.methodLink RX0 3 objectInit) k_0) (hts (.instanceMethod objectInit) k_1) (hts (.code objectInit ⟨#[0xb1]⟩ 1 none) k_2) rfl (by rw [hml]; exact hl.1) rfl dX0_init_1 (Nat.le_of_ble_eq_true rfl) (Nat.le_of_ble_eq_true rfl) ?_
  refine W.eq (g2 := F0 m 4 ls []) rfl ?_
  refine lv_aload_n hx hb dX0_init_4 rfl (lv_at hl 0 rfl) ?_
  refine lv_iload_n hx hb dX0_init_5 rfl (lv_at hl 1 rfl) ?_
  refine lv_iconst (v := 0) hx hb dX0_init_6 (by decide) ?_
  refine va_mmax hx hb (by rw [hml]; exact hl.1.symm) hown (hts (.methodLink RX0 9 Lib.Math.max.name) k_3) (hts (.static Lib.Math.max.name) k_4) (hts (.initialized "java/lang/Math") k_5) (hts (.code Lib.Math.max.name Lib.Math.max.code 2 (some .int)) k_6) (Nat.le_of_ble_eq_true rfl) (Nat.le_of_ble_eq_true rfl) (Nat.zero_le _) (Nat.zero_le _) dX0_init_7 ?_
  refine pf_top (y := room) (if_neg g1) ?_
  refine va_newa (atype := .byte) (ty := .byte) (a0 := (n, .inl (fun _ => 0))) (n := room) (N' := n) hx hb (hts (.arrayClass .byte) k_7) rfl hK hP hD hS hA (fun _ => rfl) (g1) (g2) (by show n * 1 ≤ 536870912; omega) (Nat.le_of_ble_eq_true rfl) (by show 0 + n ≤ n; omega) dX0_init_10 (fun q1 cA2 H hK hP hD hS => ?_)
  have hP : va_P (dC, dI) vwCl [(a0, .inr (0, [.null, .int 0])), (q1, .inl (cA2, n, .inl (fun _ => 0)))] H := hP
  have hD : va_D A [(a0, .inr (0, [.null, .int 0])), (q1, .inl (cA2, n, .inl (fun _ => 0)))] := hD
  have hK : va_K (dC, dI) vwCl [(cA2, .byte)] s := hK
  refine W.widen (k := 1) (n := n) (by omega) (by omega) ?_
  refine va_putF (D := (dC, dI)) (ci := 0) (v := .ref q1) (ty := .array .byte) (C := RX0) (T := TX0) (N := 2) hx hb hts inAll_0 tyX0 tyX0_ok nmX0 hown hK hP hD hS 0 rfl rfl 0 (by decide) (hts (.fieldLink RX0 15 "LoopEnvelopes$Bytes" "cells" "[B") k_8) (fun _ h9 => h9) rfl hin rfl (by decide +kernel) rfl rfl (Nat.le_of_ble_eq_true rfl) dX0_init_12 (fun H locs hP hD hS => ?_)
  have hP : va_P (dC, dI) vwCl [(a0, .inr (0, [.ref q1, .int 0])), (q1, .inl (cA2, n, .inl (fun _ => 0)))] H := hP
  have hD : va_D A [(a0, .inr (0, [.ref q1, .int 0])), (q1, .inl (cA2, n, .inl (fun _ => 0)))] := hD
  refine lv_aload_n hx hb dX0_init_15 rfl (lv_at hl 0 rfl) ?_
  refine lv_iconst (v := 0) hx hb dX0_init_16 (by decide) ?_
  refine va_put (D := (dC, dI)) (ci := 0) (v := .int 0) (ty := .int) (C := RX0) (T := TX0) (N := 2) hx hb hts inAll_0 tyX0 tyX0_ok nmX0 hown hK hP hD hS 0 rfl rfl 1 (by decide) (hts (.fieldLink RX0 21 "LoopEnvelopes$Bytes" "used" "I") k_9) (fun _ h9 => h9) rfl (by decide +kernel) rfl rfl (Nat.le_of_ble_eq_true rfl) dX0_init_17 (fun H locs hP hD hS => ?_)
  have hP : va_P (dC, dI) vwCl [(a0, .inr (0, [.ref q1, .int 0])), (q1, .inl (cA2, n, .inl (fun _ => 0)))] H := hP
  have hD : va_D A [(a0, .inr (0, [.ref q1, .int 0])), (q1, .inl (cA2, n, .inl (fun _ => 0)))] := hD
  have hP9 := hP.sub (ws' := [(a0, .inr (0, [.ref q1, .int 0])), (q1, .inl (cA2, n, .inl (fun _ => 0)))]) [0, 1] rfl
  have hD9 := hD.sub (ws' := [(a0, .inr (0, [.ref q1, .int 0])), (q1, .inl (cA2, n, .inl (fun _ => 0)))]) [0, 1] (by decide) rfl
  have hK9 := hK.sub (tys' := [(cA2, .byte)]) [0] rfl
  refine W.widen (k := 1) (n := n) (by omega) (by omega) ?_
  exact W.vret hx hb hr (fun t ht hW => ⟨⟨(), rfl, trivial, q1, cA2, by rw [ht]; exact hP9, va_K.moved hW.alike hK9, hD9⟩, hS.F ht⟩) hS.2.2 dX0_init_20

set_option maxHeartbeats 4000000 in
set_option maxRecDepth 100000 in
/-- Table(rows, cols) -/
theorem c_X4_init (l : Launch) (dC : Nat → ClassId) (dI : Nat → Nat → Nat) (sz : Nat) (a0 : Nat) (rows : Int32) (cols : Int32) (n : Nat) (g1 : ¬ rows * cols < 0) (g2 : (rows * cols).toNatClampNeg = n) (g3 : n ≤ 2000) : Met l yX4_init pwX4_init ({ frames := 1, cells := 1, slots := n, locals := 20 } : Room) (va_Pc [.ref a0, .int rows, .int cols] (fun U => U.heap.size = sz ∧ va_P (dC, dI) vwCl [(a0, .inr (4, [.int 0, .int 0, .null]))] U.heap ∧ va_K (dC, dI) vwCl [] U ∧ va_D (fun _ => True) [(a0, .inr (4, [.int 0, .int 0, .null]))])) (va_Qv (fun _ : Unit => True) (fun (_ : Unit) (t : State) => va_P (dC, dI) vwCl [] t.heap ∧ va_K (dC, dI) vwCl [] t ∧ va_D (va_A [(a0, .inr (4, [.int 0, .int 0, .null]))] sz) []) (va_A [(a0, .inr (4, [.int 0, .int 0, .null]))] sz)) 1 n (va_A [(a0, .inr (4, [.int 0, .int 0, .null]))] sz) := by
  refine Met.ofW (cc := cX4_init) (maxL := 3) (ret := none) (by decide) rfl ?_
  intro p e s m args below meth c s₁ B hml hv
  obtain ⟨rfl, hsz, hP, hK, hD0⟩ := hv
  have hx := B.exec
  have hb := B.bytes
  have hr := B.returns
  have hts0 := atoms_spec (ws := pwX4_init) B.pre
  have hts := fun w (h : w ∈ pwAll) => hts0 w (List.mem_cons_of_mem _ h)
  have hown : s.vm.findClass RX4 = some m.cls := findClass_of_methodNamed B.named
  have hlocks := B.notSynchronized
  have hin : meth.name = "<init>" := (name_of_methodNamed B.named B.method).1
  subst hsz
  have hD := hD0.self (sz := s.heap.size)
  generalize hAe : va_A [(a0, .inr (4, [.int 0, .int 0, .null]))] s.heap.size = A at hD ⊢
  have hA : ∀ q : Nat, s.heap.size ≤ q → A q := fun q h => by rw [← hAe]; exact Or.inr h
  have hS : va_S A s.heap s.heap [] := va_S.rf
  have hP : va_P (dC, dI) vwCl [(a0, .inr (4, [.int 0, .int 0, .null]))] s.heap := hP
  have hl := lv_entry ([.ref a0, .int rows, .int cols]) (n := 3) (Nat.le_of_ble_eq_true rfl)
  rw [lg_entry_eq]
  generalize (lg_sl ([.ref a0, .int rows, .int cols]) ++ List.replicate (3 - (lg_sl ([.ref a0, .int rows, .int cols])).length) Slot.unset).toArray = ls at hl ⊢
  have hl : lv_has ls 3 [(0, .ref a0), (1, .int rows), (2, .int cols)] := hl
  refine lv_aload_n hx hb dX4_init_0 rfl (lv_at hl 0 rfl) ?_
  refine W.objInit hx hb hown (hts (.methodLink RX4 3 objectInit) k_10) (hts (.instanceMethod objectInit) k_1) (hts (.code objectInit ⟨#[0xb1]⟩ 1 none) k_2) rfl (by rw [hml]; exact hl.1) rfl dX4_init_1 (Nat.le_of_ble_eq_true rfl) (Nat.le_of_ble_eq_true rfl) ?_
  refine W.eq (g2 := F0 m 4 ls []) rfl ?_
  refine lv_aload_n hx hb dX4_init_4 rfl (lv_at hl 0 rfl) ?_
  refine lv_iload_n hx hb dX4_init_5 rfl (lv_at hl 1 rfl) ?_
  refine va_putF (D := (dC, dI)) (ci := 4) (v := .int rows) (ty := .int) (C := RX4) (T := TX4) (N := 3) hx hb hts inAll_4 tyX4 tyX4_ok nmX4 hown hK hP hD hS 0 rfl rfl 0 (by decide) (hts (.fieldLink RX4 9 "LoopEnvelopes$Table" "rows" "I") k_11) (fun _ h9 => h9) rfl hin rfl (by decide +kernel) rfl rfl (Nat.le_of_ble_eq_true rfl) dX4_init_6 (fun H locs hP hD hS => ?_)
  have hP : va_P (dC, dI) vwCl [(a0, .inr (4, [.int rows, .int 0, .null]))] H := hP
  have hD : va_D A [(a0, .inr (4, [.int rows, .int 0, .null]))] := hD
  refine lv_aload_n hx hb dX4_init_9 rfl (lv_at hl 0 rfl) ?_
  refine lv_iload_n hx hb dX4_init_10 rfl (lv_at hl 2 rfl) ?_
  refine va_putF (D := (dC, dI)) (ci := 4) (v := .int cols) (ty := .int) (C := RX4) (T := TX4) (N := 3) hx hb hts inAll_4 tyX4 tyX4_ok nmX4 hown hK hP hD hS 0 rfl rfl 1 (by decide) (hts (.fieldLink RX4 15 "LoopEnvelopes$Table" "columns" "I") k_12) (fun _ h9 => h9) rfl hin rfl (by decide +kernel) rfl rfl (Nat.le_of_ble_eq_true rfl) dX4_init_11 (fun H locs hP hD hS => ?_)
  have hP : va_P (dC, dI) vwCl [(a0, .inr (4, [.int rows, .int cols, .null]))] H := hP
  have hD : va_D A [(a0, .inr (4, [.int rows, .int cols, .null]))] := hD
  refine lv_aload_n hx hb dX4_init_14 rfl (lv_at hl 0 rfl) ?_
  refine lv_iload_n hx hb dX4_init_15 rfl (lv_at hl 1 rfl) ?_
  refine lv_iload_n hx hb dX4_init_16 rfl (lv_at hl 2 rfl) ?_
  refine lv_imul hx hb dX4_init_17 ?_
  refine lv_iconst (v := 0) hx hb dX4_init_18 (by decide) ?_
  refine va_mmax hx hb (by rw [hml]; exact hl.1.symm) hown (hts (.methodLink RX4 18 Lib.Math.max.name) k_13) (hts (.static Lib.Math.max.name) k_4) (hts (.initialized "java/lang/Math") k_5) (hts (.code Lib.Math.max.name Lib.Math.max.code 2 (some .int)) k_6) (Nat.le_of_ble_eq_true rfl) (Nat.le_of_ble_eq_true rfl) (Nat.zero_le _) (Nat.zero_le _) dX4_init_19 ?_
  refine pf_top (y := (rows * cols)) (if_neg g1) ?_
  refine va_newa (atype := .int) (ty := .int) (a0 := (n, .inl (fun _ => 0))) (n := (rows * cols)) (N' := n) hx hb (hts (.arrayClass .int) k_14) rfl hK hP hD hS hA (fun _ => rfl) (g1) (g2) (by show n * 4 ≤ 536870912; omega) (Nat.le_of_ble_eq_true rfl) (by show 0 + n ≤ n; omega) dX4_init_22 (fun q1 cA2 H hK hP hD hS => ?_)
  have hP : va_P (dC, dI) vwCl [(a0, .inr (4, [.int rows, .int cols, .null])), (q1, .inl (cA2, n, .inl (fun _ => 0)))] H := hP
  have hD : va_D A [(a0, .inr (4, [.int rows, .int cols, .null])), (q1, .inl (cA2, n, .inl (fun _ => 0)))] := hD
  have hK : va_K (dC, dI) vwCl [(cA2, .int)] s := hK
  refine W.widen (k := 1) (n := n) (by omega) (by omega) ?_
  refine va_putF (D := (dC, dI)) (ci := 4) (v := .ref q1) (ty := .array .int) (C := RX4) (T := TX4) (N := 3) hx hb hts inAll_4 tyX4 tyX4_ok nmX4 hown hK hP hD hS 0 rfl rfl 2 (by decide) (hts (.fieldLink RX4 24 "LoopEnvelopes$Table" "cells" "[I") k_15) (fun _ h9 => h9) rfl hin rfl (by decide +kernel) rfl rfl (Nat.le_of_ble_eq_true rfl) dX4_init_24 (fun H locs hP hD hS => ?_)
  have hP : va_P (dC, dI) vwCl [(a0, .inr (4, [.int rows, .int cols, .ref q1])), (q1, .inl (cA2, n, .inl (fun _ => 0)))] H := hP
  have hD : va_D A [(a0, .inr (4, [.int rows, .int cols, .ref q1])), (q1, .inl (cA2, n, .inl (fun _ => 0)))] := hD
  have hP9 := hP.sub (ws' := []) [] rfl
  have hD9 := hD.sub (ws' := []) [] (by decide) rfl
  have hK9 := hK.sub (tys' := []) [] rfl
  refine W.widen (k := 1) (n := n) (by omega) (by omega) ?_
  exact W.vret hx hb hr (fun t ht hW => ⟨⟨(), rfl, trivial, by rw [ht]; exact hP9, va_K.moved hW.alike hK9, hD9⟩, hS.F ht⟩) hS.2.2 dX4_init_27

set_option maxHeartbeats 4000000 in
set_option maxRecDepth 100000 in
/-- Segments() -/
theorem c_X3_init (l : Launch) (dC : Nat → ClassId) (dI : Nat → Nat → Nat) (sz : Nat) (a0 : Nat) : Met l yX3_init pwX3_init ({ frames := 2, cells := 8, slots := 2651, locals := 42 } : Room) (va_Pc [.ref a0] (fun U => U.heap.size = sz ∧ va_P (dC, dI) vwCl [(a0, .inr (3, [.null, .null, .null, .null, .int 0]))] U.heap ∧ va_K (dC, dI) vwCl [] U ∧ va_D (fun _ => True) [(a0, .inr (3, [.null, .null, .null, .null, .int 0]))])) (va_Qv (fun _ : Unit => True) (fun (_ : Unit) (t : State) => ∃ (qb : Nat) (qa : Nat) (qc : Nat) (qd : Nat) (qe : Nat), va_P (dC, dI) vwCl [(a0, .inr (3, [.ref qb, .ref qc, .ref qd, .ref qe, .int 0])), (qb, .inr (0, [.ref qa, .int 0]))] t.heap ∧ va_K (dC, dI) vwCl [] t ∧ va_D (va_A [(a0, .inr (3, [.null, .null, .null, .null, .int 0]))] sz) [(a0, .inr (3, [.ref qb, .ref qc, .ref qd, .ref qe, .int 0])), (qb, .inr (0, [.ref qa, .int 0]))]) (va_A [(a0, .inr (3, [.null, .null, .null, .null, .int 0]))] sz)) 8 2651 (va_A [(a0, .inr (3, [.null, .null, .null, .null, .int 0]))] sz) := by
  refine Met.ofW (cc := cX3_init) (maxL := 1) (ret := none) (by decide) rfl ?_
  intro p e s m args below meth c s₁ B hml hv
  obtain ⟨rfl, hsz, hP, hK, hD0⟩ := hv
  have hx := B.exec
  have hb := B.bytes
  have hr := B.returns
  have hts0 := atoms_spec (ws := pwX3_init) B.pre
  have hts := fun w (h : w ∈ pwAll) => hts0 w (List.mem_cons_of_mem _ h)
  have hown : s.vm.findClass RX3 = some m.cls := findClass_of_methodNamed B.named
  have hlocks := B.notSynchronized
  have hin : meth.name = "<init>" := (name_of_methodNamed B.named B.method).1
  subst hsz
  have hD := hD0.self (sz := s.heap.size)
  generalize hAe : va_A [(a0, .inr (3, [.null, .null, .null, .null, .int 0]))] s.heap.size = A at hD ⊢
  have hA : ∀ q : Nat, s.heap.size ≤ q → A q := fun q h => by rw [← hAe]; exact Or.inr h
  have hS : va_S A s.heap s.heap [] := va_S.rf
  have hP : va_P (dC, dI) vwCl [(a0, .inr (3, [.null, .null, .null, .null, .int 0]))] s.heap := hP
  have hl := lv_entry ([.ref a0]) (n := 1) (Nat.le_of_ble_eq_true rfl)
  rw [lg_entry_eq]
  generalize (lg_sl ([.ref a0]) ++ List.replicate (1 - (lg_sl ([.ref a0])).length) Slot.unset).toArray = ls at hl ⊢
  have hl : lv_has ls 1 [(0, .ref a0)] := hl
  refine lv_aload_n hx hb dX3_init_0 rfl (lv_at hl 0 rfl) ?_
  refine W.objInit hx hb hown (hts (.methodLink RX3 3 objectInit) k_16) (hts (.instanceMethod objectInit) k_1) (hts (.code objectInit ⟨#[0xb1]⟩ 1 none) k_2) rfl (by rw [hml]; exact hl.1) rfl dX3_init_1 (Nat.le_of_ble_eq_true rfl) (Nat.le_of_ble_eq_true rfl) ?_
  refine W.eq (g2 := F0 m 4 ls []) rfl ?_
  refine lv_aload_n hx hb dX3_init_4 rfl (lv_at hl 0 rfl) ?_
  refine va_new (ci := 0) (fs := [.null, .int 0]) (C := RX0) (T := TX0) (N := 2) hx hb hts inAll_0 tyX0 tyX0_ok hown (hts (.classLink RX3 9 RX0) k_17) (hts (.instantiable RX0 2) k_18) (hts (.initialized RX0) k_19) hK hP hD hS hA rfl (fun j hj => by rcases (show j = 0 ∨ j = 1 by omega) with rfl | rfl <;> rfl) (Nat.le_of_ble_eq_true rfl) (Nat.le_of_ble_eq_true rfl) dX3_init_5 (fun q1 H hP hD hS => ?_)
  have hP : va_P (dC, dI) vwCl [(a0, .inr (3, [.null, .null, .null, .null, .int 0])), (q1, .inr (0, [.null, .int 0]))] H := hP
  have hD : va_D A [(a0, .inr (3, [.null, .null, .null, .null, .int 0])), (q1, .inr (0, [.null, .int 0]))] := hD
  refine W.widen (k := 1) (n := 2) (Nat.le_of_ble_eq_true rfl) (Nat.le_of_ble_eq_true rfl) ?_
  refine lv_dup hx hb dX3_init_8 rfl ?_
  refine lv_sipush (v := 1200) hx hb dX3_init_9 (by decide) ?_
  have hPc := hP.sub (ws' := [(q1, .inr (0, [.null, .int 0]))]) [1] rfl
  have hDc := hD.sub (ws' := [(q1, .inr (0, [.null, .int 0]))]) [1] (by decide) rfl
  have hKc := hK.sub (tys' := []) [] rfl
  have hFc := va_free (wc := [(q1, .inr (0, [.null, .int 0]))]) hD hS hA [1] rfl
  refine va_callv (va_runI (As := [.int 1200]) (rest := [.ref q1, .ref a0]) ⟨hx, hb, hml, hown, hts⟩ (c_X0_init l dC dI H.size q1 1200 1200 (by decide) (rfl) (Nat.le_of_ble_eq_true rfl)) (cwI 1 hts gg_i_X0_init rfl rfl rfl (hts (.initialized RX0) k_19) (hts (.methodLink RX3 11 yX0_init) k_21) (hts (.instanceMethod yX0_init) k_22) rfl (by decide +kernel) ⟨Nat.le_of_ble_eq_true rfl, Nat.le_of_ble_eq_true rfl⟩) ⟨fun a U g mk q => by obtain ⟨q0, q1, qP, qK, qD⟩ := q; exact ⟨q0, q1, qP, va_K.moved (u := U) (U := U.calling g mk a) (Vm.Alike.refl U.vm) qK, qD⟩, fun U hU hW => ⟨rfl, by rw [hU], by rw [hU]; exact hPc, va_K.moved hW.alike hKc, hDc.weaken (fun _ _ _ _ => trivial)⟩⟩ rfl rfl hl.1 rfl (lv_room (Nat.le_of_ble_eq_true rfl)) dX3_init_12 ⟨Nat.le_of_ble_eq_true rfl, Nat.le_of_ble_eq_true rfl⟩) hS (fun q _ h => hFc q h) hFc (fun u t H1 locs ht hvm hw hB hz1 hk1 hS => ?_)
  obtain ⟨qa3, cA4, hP1, hK1, hD1⟩ := hB
  rw [ht] at hP1
  have hK1 := va_K.moved hvm.symm hK1
  obtain ⟨hP, hD⟩ := va_join (wr := [(a0, .inr (3, [.null, .null, .null, .null, .int 0]))]) (w1 := [(q1, .inr (0, [.ref qa3, .int 0])), (qa3, .inl (cA4, 1200, .inl (fun _ => 0)))]) hP hD [1] [0] rfl rfl (by decide) (by decide) hk1 hFc hP1 hD1
  have hK := (hK.sub (tys' := []) [] rfl).app hK1
  generalize H1 = H at hP hS ⊢
  have hP : va_P (dC, dI) vwCl [(a0, .inr (3, [.null, .null, .null, .null, .int 0])), (q1, .inr (0, [.ref qa3, .int 0])), (qa3, .inl (cA4, 1200, .inl (fun _ => 0)))] H := hP
  have hD : va_D A [(a0, .inr (3, [.null, .null, .null, .null, .int 0])), (q1, .inr (0, [.ref qa3, .int 0])), (qa3, .inl (cA4, 1200, .inl (fun _ => 0)))] := hD
  have hK : va_K (dC, dI) vwCl [(cA4, .byte)] s := hK
  refine W.widen (k := 2) (n := 1202) (Nat.le_of_ble_eq_true rfl) (Nat.le_of_ble_eq_true rfl) ?_
  refine va_putF (D := (dC, dI)) (ci := 3) (v := .ref q1) (ty := .object "LoopEnvelopes$Bytes") (C := RX3) (T := TX3) (N := 5) hx hb hts inAll_3 tyX3 tyX3_ok nmX3 hown hK hP hD hS 0 rfl rfl 0 (by decide) (hts (.fieldLink RX3 14 "LoopEnvelopes$Segments" "bytes" "LLoopEnvelopes$Bytes;") k_23) (fun _ h9 => h9) rfl hin rfl (by decide +kernel) rfl rfl (Nat.le_of_ble_eq_true rfl) dX3_init_15 (fun H locs hP hD hS => ?_)
  have hP : va_P (dC, dI) vwCl [(a0, .inr (3, [.ref q1, .null, .null, .null, .int 0])), (q1, .inr (0, [.ref qa3, .int 0])), (qa3, .inl (cA4, 1200, .inl (fun _ => 0)))] H := hP
  have hD : va_D A [(a0, .inr (3, [.ref q1, .null, .null, .null, .int 0])), (q1, .inr (0, [.ref qa3, .int 0])), (qa3, .inl (cA4, 1200, .inl (fun _ => 0)))] := hD
  refine lv_aload_n hx hb dX3_init_18 rfl (lv_at hl 0 rfl) ?_
  refine va_new (ci := 4) (fs := [.int 0, .int 0, .null]) (C := RX4) (T := TX4) (N := 3) hx hb hts inAll_4 tyX4 tyX4_ok hown (hts (.classLink RX3 20 RX4) k_24) (hts (.instantiable RX4 3) k_25) (hts (.initialized RX4) k_26) hK hP hD hS hA rfl (fun j hj => by rcases (show j = 0 ∨ j = 1 ∨ j = 2 by omega) with rfl | rfl | rfl <;> rfl) (Nat.le_of_ble_eq_true rfl) (Nat.le_of_ble_eq_true rfl) dX3_init_19 (fun q5 H hP hD hS => ?_)
  have hP : va_P (dC, dI) vwCl [(a0, .inr (3, [.ref q1, .null, .null, .null, .int 0])), (q1, .inr (0, [.ref qa3, .int 0])), (qa3, .inl (cA4, 1200, .inl (fun _ => 0))), (q5, .inr (4, [.int 0, .int 0, .null]))] H := hP
  have hD : va_D A [(a0, .inr (3, [.ref q1, .null, .null, .null, .int 0])), (q1, .inr (0, [.ref qa3, .int 0])), (qa3, .inl (cA4, 1200, .inl (fun _ => 0))), (q5, .inr (4, [.int 0, .int 0, .null]))] := hD
  refine W.widen (k := 3) (n := 1205) (Nat.le_of_ble_eq_true rfl) (Nat.le_of_ble_eq_true rfl) ?_
  refine lv_dup hx hb dX3_init_22 rfl ?_
  refine lv_bipush (v := 120) hx hb dX3_init_23 (by decide) ?_
  refine lv_bipush (v := 10) hx hb dX3_init_25 (by decide) ?_
  have hPc := hP.sub (ws' := [(q5, .inr (4, [.int 0, .int 0, .null]))]) [3] rfl
  have hDc := hD.sub (ws' := [(q5, .inr (4, [.int 0, .int 0, .null]))]) [3] (by decide) rfl
  have hKc := hK.sub (tys' := []) [] rfl
  have hFc := va_free (wc := [(q5, .inr (4, [.int 0, .int 0, .null]))]) hD hS hA [3] rfl
  refine va_callv (va_runI (As := [.int 120, .int 10]) (rest := [.ref q5, .ref a0]) ⟨hx, hb, hml, hown, hts⟩ (c_X4_init l dC dI H.size q5 120 10 1200 (by decide) (rfl) (Nat.le_of_ble_eq_true rfl)) (cwI 2 hts gg_i_X4_init rfl rfl rfl (hts (.initialized RX4) k_26) (hts (.methodLink RX3 22 yX4_init) k_28) (hts (.instanceMethod yX4_init) k_29) rfl (by decide +kernel) ⟨Nat.le_of_ble_eq_true rfl, Nat.le_of_ble_eq_true rfl⟩) ⟨fun a U g mk q => by obtain ⟨q0, q1, qP, qK, qD⟩ := q; exact ⟨q0, q1, qP, va_K.moved (u := U) (U := U.calling g mk a) (Vm.Alike.refl U.vm) qK, qD⟩, fun U hU hW => ⟨rfl, by rw [hU], by rw [hU]; exact hPc, va_K.moved hW.alike hKc, hDc.weaken (fun _ _ _ _ => trivial)⟩⟩ rfl rfl hl.1 rfl (lv_room (Nat.le_of_ble_eq_true rfl)) dX3_init_27 ⟨Nat.le_of_ble_eq_true rfl, Nat.le_of_ble_eq_true rfl⟩) hS (fun q _ h => hFc q h) hFc (fun u t H1 locs ht hvm hw hB hz1 hk1 hS => ?_)
  obtain ⟨hP1, hK1, hD1⟩ := hB
  rw [ht] at hP1
  have hK1 := va_K.moved hvm.symm hK1
  obtain ⟨hP, hD⟩ := va_join (wr := [(a0, .inr (3, [.ref q1, .null, .null, .null, .int 0])), (q1, .inr (0, [.ref qa3, .int 0])), (qa3, .inl (cA4, 1200, .inl (fun _ => 0)))]) (w1 := []) hP hD [3] [0, 1, 2] rfl rfl (by decide) (by decide) hk1 hFc hP1 hD1
  have hK := (hK.sub (tys' := [(cA4, .byte)]) [0] rfl).app hK1
  generalize H1 = H at hP hS ⊢
  have hP : va_P (dC, dI) vwCl [(a0, .inr (3, [.ref q1, .null, .null, .null, .int 0])), (q1, .inr (0, [.ref qa3, .int 0])), (qa3, .inl (cA4, 1200, .inl (fun _ => 0)))] H := hP
  have hD : va_D A [(a0, .inr (3, [.ref q1, .null, .null, .null, .int 0])), (q1, .inr (0, [.ref qa3, .int 0])), (qa3, .inl (cA4, 1200, .inl (fun _ => 0)))] := hD
  have hK : va_K (dC, dI) vwCl [(cA4, .byte)] s := hK
  refine W.widen (k := 4) (n := 2405) (Nat.le_of_ble_eq_true rfl) (Nat.le_of_ble_eq_true rfl) ?_
  refine va_putF (D := (dC, dI)) (ci := 3) (v := .ref q5) (ty := .object "LoopEnvelopes$Table") (C := RX3) (T := TX3) (N := 5) hx hb hts inAll_3 tyX3 tyX3_ok nmX3 hown hK hP hD hS 0 rfl rfl 1 (by decide) (hts (.fieldLink RX3 25 "LoopEnvelopes$Segments" "begins" "LLoopEnvelopes$Table;") k_30) (fun _ h9 => h9) rfl hin rfl (by decide +kernel) rfl rfl (Nat.le_of_ble_eq_true rfl) dX3_init_30 (fun H locs hP hD hS => ?_)
  have hP : va_P (dC, dI) vwCl [(a0, .inr (3, [.ref q1, .ref q5, .null, .null, .int 0])), (q1, .inr (0, [.ref qa3, .int 0])), (qa3, .inl (cA4, 1200, .inl (fun _ => 0)))] H := hP
  have hD : va_D A [(a0, .inr (3, [.ref q1, .ref q5, .null, .null, .int 0])), (q1, .inr (0, [.ref qa3, .int 0])), (qa3, .inl (cA4, 1200, .inl (fun _ => 0)))] := hD
  refine lv_aload_n hx hb dX3_init_33 rfl (lv_at hl 0 rfl) ?_
  refine va_new (ci := 4) (fs := [.int 0, .int 0, .null]) (C := RX4) (T := TX4) (N := 3) hx hb hts inAll_4 tyX4 tyX4_ok hown (hts (.classLink RX3 20 RX4) k_24) (hts (.instantiable RX4 3) k_25) (hts (.initialized RX4) k_26) hK hP hD hS hA rfl (fun j hj => by rcases (show j = 0 ∨ j = 1 ∨ j = 2 by omega) with rfl | rfl | rfl <;> rfl) (Nat.le_of_ble_eq_true rfl) (Nat.le_of_ble_eq_true rfl) dX3_init_34 (fun q7 H hP hD hS => ?_)
  have hP : va_P (dC, dI) vwCl [(a0, .inr (3, [.ref q1, .ref q5, .null, .null, .int 0])), (q1, .inr (0, [.ref qa3, .int 0])), (qa3, .inl (cA4, 1200, .inl (fun _ => 0))), (q7, .inr (4, [.int 0, .int 0, .null]))] H := hP
  have hD : va_D A [(a0, .inr (3, [.ref q1, .ref q5, .null, .null, .int 0])), (q1, .inr (0, [.ref qa3, .int 0])), (qa3, .inl (cA4, 1200, .inl (fun _ => 0))), (q7, .inr (4, [.int 0, .int 0, .null]))] := hD
  refine W.widen (k := 5) (n := 2408) (Nat.le_of_ble_eq_true rfl) (Nat.le_of_ble_eq_true rfl) ?_
  refine lv_dup hx hb dX3_init_37 rfl ?_
  refine lv_bipush (v := 120) hx hb dX3_init_38 (by decide) ?_
  refine lv_iconst (v := 1) hx hb dX3_init_40 (by decide) ?_
  have hPc := hP.sub (ws' := [(q7, .inr (4, [.int 0, .int 0, .null]))]) [3] rfl
  have hDc := hD.sub (ws' := [(q7, .inr (4, [.int 0, .int 0, .null]))]) [3] (by decide) rfl
  have hKc := hK.sub (tys' := []) [] rfl
  have hFc := va_free (wc := [(q7, .inr (4, [.int 0, .int 0, .null]))]) hD hS hA [3] rfl
  refine va_callv (va_runI (As := [.int 120, .int 1]) (rest := [.ref q7, .ref a0]) ⟨hx, hb, hml, hown, hts⟩ (c_X4_init l dC dI H.size q7 120 1 120 (by decide) (rfl) (Nat.le_of_ble_eq_true rfl)) (cwI 2 hts gg_i_X4_init rfl rfl rfl (hts (.initialized RX4) k_26) (hts (.methodLink RX3 22 yX4_init) k_28) (hts (.instanceMethod yX4_init) k_29) rfl (by decide +kernel) ⟨Nat.le_of_ble_eq_true rfl, Nat.le_of_ble_eq_true rfl⟩) ⟨fun a U g mk q => by obtain ⟨q0, q1, qP, qK, qD⟩ := q; exact ⟨q0, q1, qP, va_K.moved (u := U) (U := U.calling g mk a) (Vm.Alike.refl U.vm) qK, qD⟩, fun U hU hW => ⟨rfl, by rw [hU], by rw [hU]; exact hPc, va_K.moved hW.alike hKc, hDc.weaken (fun _ _ _ _ => trivial)⟩⟩ rfl rfl hl.1 rfl (lv_room (Nat.le_of_ble_eq_true rfl)) dX3_init_41 ⟨Nat.le_of_ble_eq_true rfl, Nat.le_of_ble_eq_true rfl⟩) hS (fun q _ h => hFc q h) hFc (fun u t H1 locs ht hvm hw hB hz1 hk1 hS => ?_)
  obtain ⟨hP1, hK1, hD1⟩ := hB
  rw [ht] at hP1
  have hK1 := va_K.moved hvm.symm hK1
  obtain ⟨hP, hD⟩ := va_join (wr := [(a0, .inr (3, [.ref q1, .ref q5, .null, .null, .int 0])), (q1, .inr (0, [.ref qa3, .int 0])), (qa3, .inl (cA4, 1200, .inl (fun _ => 0)))]) (w1 := []) hP hD [3] [0, 1, 2] rfl rfl (by decide) (by decide) hk1 hFc hP1 hD1
  have hK := (hK.sub (tys' := [(cA4, .byte)]) [0] rfl).app hK1
  generalize H1 = H at hP hS ⊢
  have hP : va_P (dC, dI) vwCl [(a0, .inr (3, [.ref q1, .ref q5, .null, .null, .int 0])), (q1, .inr (0, [.ref qa3, .int 0])), (qa3, .inl (cA4, 1200, .inl (fun _ => 0)))] H := hP
  have hD : va_D A [(a0, .inr (3, [.ref q1, .ref q5, .null, .null, .int 0])), (q1, .inr (0, [.ref qa3, .int 0])), (qa3, .inl (cA4, 1200, .inl (fun _ => 0)))] := hD
  have hK : va_K (dC, dI) vwCl [(cA4, .byte)] s := hK
  refine W.widen (k := 6) (n := 2528) (Nat.le_of_ble_eq_true rfl) (Nat.le_of_ble_eq_true rfl) ?_
  refine va_putF (D := (dC, dI)) (ci := 3) (v := .ref q7) (ty := .object "LoopEnvelopes$Table") (C := RX3) (T := TX3) (N := 5) hx hb hts inAll_3 tyX3 tyX3_ok nmX3 hown hK hP hD hS 0 rfl rfl 2 (by decide) (hts (.fieldLink RX3 29 "LoopEnvelopes$Segments" "names" "LLoopEnvelopes$Table;") k_31) (fun _ h9 => h9) rfl hin rfl (by decide +kernel) rfl rfl (Nat.le_of_ble_eq_true rfl) dX3_init_44 (fun H locs hP hD hS => ?_)
  have hP : va_P (dC, dI) vwCl [(a0, .inr (3, [.ref q1, .ref q5, .ref q7, .null, .int 0])), (q1, .inr (0, [.ref qa3, .int 0])), (qa3, .inl (cA4, 1200, .inl (fun _ => 0)))] H := hP
  have hD : va_D A [(a0, .inr (3, [.ref q1, .ref q5, .ref q7, .null, .int 0])), (q1, .inr (0, [.ref qa3, .int 0])), (qa3, .inl (cA4, 1200, .inl (fun _ => 0)))] := hD
  refine lv_aload_n hx hb dX3_init_47 rfl (lv_at hl 0 rfl) ?_
  refine va_new (ci := 4) (fs := [.int 0, .int 0, .null]) (C := RX4) (T := TX4) (N := 3) hx hb hts inAll_4 tyX4 tyX4_ok hown (hts (.classLink RX3 20 RX4) k_24) (hts (.instantiable RX4 3) k_25) (hts (.initialized RX4) k_26) hK hP hD hS hA rfl (fun j hj => by rcases (show j = 0 ∨ j = 1 ∨ j = 2 by omega) with rfl | rfl | rfl <;> rfl) (Nat.le_of_ble_eq_true rfl) (Nat.le_of_ble_eq_true rfl) dX3_init_48 (fun q9 H hP hD hS => ?_)
  have hP : va_P (dC, dI) vwCl [(a0, .inr (3, [.ref q1, .ref q5, .ref q7, .null, .int 0])), (q1, .inr (0, [.ref qa3, .int 0])), (qa3, .inl (cA4, 1200, .inl (fun _ => 0))), (q9, .inr (4, [.int 0, .int 0, .null]))] H := hP
  have hD : va_D A [(a0, .inr (3, [.ref q1, .ref q5, .ref q7, .null, .int 0])), (q1, .inr (0, [.ref qa3, .int 0])), (qa3, .inl (cA4, 1200, .inl (fun _ => 0))), (q9, .inr (4, [.int 0, .int 0, .null]))] := hD
  refine W.widen (k := 7) (n := 2531) (Nat.le_of_ble_eq_true rfl) (Nat.le_of_ble_eq_true rfl) ?_
  refine lv_dup hx hb dX3_init_51 rfl ?_
  refine lv_bipush (v := 120) hx hb dX3_init_52 (by decide) ?_
  refine lv_iconst (v := 1) hx hb dX3_init_54 (by decide) ?_
  have hPc := hP.sub (ws' := [(q9, .inr (4, [.int 0, .int 0, .null]))]) [3] rfl
  have hDc := hD.sub (ws' := [(q9, .inr (4, [.int 0, .int 0, .null]))]) [3] (by decide) rfl
  have hKc := hK.sub (tys' := []) [] rfl
  have hFc := va_free (wc := [(q9, .inr (4, [.int 0, .int 0, .null]))]) hD hS hA [3] rfl
  refine va_callv (va_runI (As := [.int 120, .int 1]) (rest := [.ref q9, .ref a0]) ⟨hx, hb, hml, hown, hts⟩ (c_X4_init l dC dI H.size q9 120 1 120 (by decide) (rfl) (Nat.le_of_ble_eq_true rfl)) (cwI 2 hts gg_i_X4_init rfl rfl rfl (hts (.initialized RX4) k_26) (hts (.methodLink RX3 22 yX4_init) k_28) (hts (.instanceMethod yX4_init) k_29) rfl (by decide +kernel) ⟨Nat.le_of_ble_eq_true rfl, Nat.le_of_ble_eq_true rfl⟩) ⟨fun a U g mk q => by obtain ⟨q0, q1, qP, qK, qD⟩ := q; exact ⟨q0, q1, qP, va_K.moved (u := U) (U := U.calling g mk a) (Vm.Alike.refl U.vm) qK, qD⟩, fun U hU hW => ⟨rfl, by rw [hU], by rw [hU]; exact hPc, va_K.moved hW.alike hKc, hDc.weaken (fun _ _ _ _ => trivial)⟩⟩ rfl rfl hl.1 rfl (lv_room (Nat.le_of_ble_eq_true rfl)) dX3_init_55 ⟨Nat.le_of_ble_eq_true rfl, Nat.le_of_ble_eq_true rfl⟩) hS (fun q _ h => hFc q h) hFc (fun u t H1 locs ht hvm hw hB hz1 hk1 hS => ?_)
  obtain ⟨hP1, hK1, hD1⟩ := hB
  rw [ht] at hP1
  have hK1 := va_K.moved hvm.symm hK1
  obtain ⟨hP, hD⟩ := va_join (wr := [(a0, .inr (3, [.ref q1, .ref q5, .ref q7, .null, .int 0])), (q1, .inr (0, [.ref qa3, .int 0])), (qa3, .inl (cA4, 1200, .inl (fun _ => 0)))]) (w1 := []) hP hD [3] [0, 1, 2] rfl rfl (by decide) (by decide) hk1 hFc hP1 hD1
  have hK := (hK.sub (tys' := [(cA4, .byte)]) [0] rfl).app hK1
  generalize H1 = H at hP hS ⊢
  have hP : va_P (dC, dI) vwCl [(a0, .inr (3, [.ref q1, .ref q5, .ref q7, .null, .int 0])), (q1, .inr (0, [.ref qa3, .int 0])), (qa3, .inl (cA4, 1200, .inl (fun _ => 0)))] H := hP
  have hD : va_D A [(a0, .inr (3, [.ref q1, .ref q5, .ref q7, .null, .int 0])), (q1, .inr (0, [.ref qa3, .int 0])), (qa3, .inl (cA4, 1200, .inl (fun _ => 0)))] := hD
  have hK : va_K (dC, dI) vwCl [(cA4, .byte)] s := hK
  refine W.widen (k := 8) (n := 2651) (Nat.le_of_ble_eq_true rfl) (Nat.le_of_ble_eq_true rfl) ?_
  refine va_putF (D := (dC, dI)) (ci := 3) (v := .ref q9) (ty := .object "LoopEnvelopes$Table") (C := RX3) (T := TX3) (N := 5) hx hb hts inAll_3 tyX3 tyX3_ok nmX3 hown hK hP hD hS 0 rfl rfl 3 (by decide) (hts (.fieldLink RX3 32 "LoopEnvelopes$Segments" "elements" "LLoopEnvelopes$Table;") k_32) (fun _ h9 => h9) rfl hin rfl (by decide +kernel) rfl rfl (Nat.le_of_ble_eq_true rfl) dX3_init_58 (fun H locs hP hD hS => ?_)
  have hP : va_P (dC, dI) vwCl [(a0, .inr (3, [.ref q1, .ref q5, .ref q7, .ref q9, .int 0])), (q1, .inr (0, [.ref qa3, .int 0])), (qa3, .inl (cA4, 1200, .inl (fun _ => 0)))] H := hP
  have hD : va_D A [(a0, .inr (3, [.ref q1, .ref q5, .ref q7, .ref q9, .int 0])), (q1, .inr (0, [.ref qa3, .int 0])), (qa3, .inl (cA4, 1200, .inl (fun _ => 0)))] := hD
  refine lv_aload_n hx hb dX3_init_61 rfl (lv_at hl 0 rfl) ?_
  refine lv_iconst (v := 0) hx hb dX3_init_62 (by decide) ?_
  refine va_put (D := (dC, dI)) (ci := 3) (v := .int 0) (ty := .int) (C := RX3) (T := TX3) (N := 5) hx hb hts inAll_3 tyX3 tyX3_ok nmX3 hown hK hP hD hS 0 rfl rfl 4 (by decide) (hts (.fieldLink RX3 35 "LoopEnvelopes$Segments" "held" "I") k_33) (fun _ h9 => h9) rfl (by decide +kernel) rfl rfl (Nat.le_of_ble_eq_true rfl) dX3_init_63 (fun H locs hP hD hS => ?_)
  have hP : va_P (dC, dI) vwCl [(a0, .inr (3, [.ref q1, .ref q5, .ref q7, .ref q9, .int 0])), (q1, .inr (0, [.ref qa3, .int 0])), (qa3, .inl (cA4, 1200, .inl (fun _ => 0)))] H := hP
  have hD : va_D A [(a0, .inr (3, [.ref q1, .ref q5, .ref q7, .ref q9, .int 0])), (q1, .inr (0, [.ref qa3, .int 0])), (qa3, .inl (cA4, 1200, .inl (fun _ => 0)))] := hD
  have hP9 := hP.sub (ws' := [(a0, .inr (3, [.ref q1, .ref q5, .ref q7, .ref q9, .int 0])), (q1, .inr (0, [.ref qa3, .int 0]))]) [0, 1] rfl
  have hD9 := hD.sub (ws' := [(a0, .inr (3, [.ref q1, .ref q5, .ref q7, .ref q9, .int 0])), (q1, .inr (0, [.ref qa3, .int 0]))]) [0, 1] (by decide) rfl
  have hK9 := hK.sub (tys' := []) [] rfl
  refine W.widen (k := 8) (n := 2651) (Nat.le_of_ble_eq_true rfl) (Nat.le_of_ble_eq_true rfl) ?_
  exact W.vret hx hb hr (fun t ht hW => ⟨⟨(), rfl, trivial, q1, qa3, q5, q7, q9, by rw [ht]; exact hP9, va_K.moved hW.alike hK9, hD9⟩, hS.F ht⟩) hS.2.2 dX3_init_66

set_option maxHeartbeats 4000000 in
set_option maxRecDepth 100000 in
/-- Frames(segments) -/
theorem c_X1_init (l : Launch) (dC : Nat → ClassId) (dI : Nat → Nat → Nat) (sz : Nat) (a0 : Nat) (gs : Nat) : Met l yX1_init pwX1_init ({ frames := 2, cells := 4, slots := 474, locals := 42 } : Room) (va_Pc [.ref a0, .ref gs] (fun U => U.heap.size = sz ∧ va_P (dC, dI) vwCl [(a0, .inr (1, [.null, .null, .null, .int 0, .int 0, .int 0]))] U.heap ∧ va_K (dC, dI) vwCl [] U ∧ va_D (fun _ => True) [(a0, .inr (1, [.null, .null, .null, .int 0, .int 0, .int 0]))])) (va_Qv (fun _ : Unit => True) (fun (_ : Unit) (t : State) => ∃ (qc : Nat) (qd : Nat), va_P (dC, dI) vwCl [(a0, .inr (1, [.ref gs, .ref qc, .ref qd, .int 0, .int 0, .int 0]))] t.heap ∧ va_K (dC, dI) vwCl [] t ∧ va_D (va_A [(a0, .inr (1, [.null, .null, .null, .int 0, .int 0, .int 0]))] sz) [(a0, .inr (1, [.ref gs, .ref qc, .ref qd, .int 0, .int 0, .int 0]))]) (va_A [(a0, .inr (1, [.null, .null, .null, .int 0, .int 0, .int 0]))] sz)) 4 474 (va_A [(a0, .inr (1, [.null, .null, .null, .int 0, .int 0, .int 0]))] sz) := by
  refine Met.ofW (cc := cX1_init) (maxL := 2) (ret := none) (by decide) rfl ?_
  intro p e s m args below meth c s₁ B hml hv
  obtain ⟨rfl, hsz, hP, hK, hD0⟩ := hv
  have hx := B.exec
  have hb := B.bytes
  have hr := B.returns
  have hts0 := atoms_spec (ws := pwX1_init) B.pre
  have hts := fun w (h : w ∈ pwAll) => hts0 w (List.mem_cons_of_mem _ h)
  have hown : s.vm.findClass RX1 = some m.cls := findClass_of_methodNamed B.named
  have hlocks := B.notSynchronized
  have hin : meth.name = "<init>" := (name_of_methodNamed B.named B.method).1
  subst hsz
  have hD := hD0.self (sz := s.heap.size)
  generalize hAe : va_A [(a0, .inr (1, [.null, .null, .null, .int 0, .int 0, .int 0]))] s.heap.size = A at hD ⊢
  have hA : ∀ q : Nat, s.heap.size ≤ q → A q := fun q h => by rw [← hAe]; exact Or.inr h
  have hS : va_S A s.heap s.heap [] := va_S.rf
  have hP : va_P (dC, dI) vwCl [(a0, .inr (1, [.null, .null, .null, .int 0, .int 0, .int 0]))] s.heap := hP
  have hl := lv_entry ([.ref a0, .ref gs]) (n := 2) (Nat.le_of_ble_eq_true rfl)
  rw [lg_entry_eq]
  generalize (lg_sl ([.ref a0, .ref gs]) ++ List.replicate (2 - (lg_sl ([.ref a0, .ref gs])).length) Slot.unset).toArray = ls at hl ⊢
  have hl : lv_has ls 2 [(0, .ref a0), (1, .ref gs)] := hl
  refine lv_aload_n hx hb dX1_init_0 rfl (lv_at hl 0 rfl) ?_
  refine W.objInit hx hb hown (hts (.methodLink RX1 3 objectInit) k_34) (hts (.instanceMethod objectInit) k_1) (hts (.code objectInit ⟨#[0xb1]⟩ 1 none) k_2) rfl (by rw [hml]; exact hl.1) rfl dX1_init_1 (Nat.le_of_ble_eq_true rfl) (Nat.le_of_ble_eq_true rfl) ?_
  refine W.eq (g2 := F0 m 4 ls []) rfl ?_
  refine lv_aload_n hx hb dX1_init_4 rfl (lv_at hl 0 rfl) ?_
  refine lv_aload_n hx hb dX1_init_5 rfl (lv_at hl 1 rfl) ?_
  refine va_putF (D := (dC, dI)) (ci := 1) (v := .ref gs) (ty := .object "LoopEnvelopes$Segments") (C := RX1) (T := TX1) (N := 6) hx hb hts inAll_1 tyX1 tyX1_ok nmX1 hown hK hP hD hS 0 rfl rfl 0 (by decide) (hts (.fieldLink RX1 9 "LoopEnvelopes$Frames" "segments" "LLoopEnvelopes$Segments;") k_35) (fun _ h9 => h9) rfl hin rfl (by decide +kernel) rfl rfl (Nat.le_of_ble_eq_true rfl) dX1_init_6 (fun H locs hP hD hS => ?_)
  have hP : va_P (dC, dI) vwCl [(a0, .inr (1, [.ref gs, .null, .null, .int 0, .int 0, .int 0]))] H := hP
  have hD : va_D A [(a0, .inr (1, [.ref gs, .null, .null, .int 0, .int 0, .int 0]))] := hD
  refine lv_aload_n hx hb dX1_init_9 rfl (lv_at hl 0 rfl) ?_
  refine va_new (ci := 4) (fs := [.int 0, .int 0, .null]) (C := RX4) (T := TX4) (N := 3) hx hb hts inAll_4 tyX4 tyX4_ok hown (hts (.classLink RX1 15 RX4) k_36) (hts (.instantiable RX4 3) k_25) (hts (.initialized RX4) k_26) hK hP hD hS hA rfl (fun j hj => by rcases (show j = 0 ∨ j = 1 ∨ j = 2 by omega) with rfl | rfl | rfl <;> rfl) (Nat.le_of_ble_eq_true rfl) (Nat.le_of_ble_eq_true rfl) dX1_init_10 (fun q1 H hP hD hS => ?_)
  have hP : va_P (dC, dI) vwCl [(a0, .inr (1, [.ref gs, .null, .null, .int 0, .int 0, .int 0])), (q1, .inr (4, [.int 0, .int 0, .null]))] H := hP
  have hD : va_D A [(a0, .inr (1, [.ref gs, .null, .null, .int 0, .int 0, .int 0])), (q1, .inr (4, [.int 0, .int 0, .null]))] := hD
  refine W.widen (k := 1) (n := 3) (Nat.le_of_ble_eq_true rfl) (Nat.le_of_ble_eq_true rfl) ?_
  refine lv_dup hx hb dX1_init_13 rfl ?_
  refine lv_bipush (v := 60) hx hb dX1_init_14 (by decide) ?_
  refine lv_iconst (v := 5) hx hb dX1_init_16 (by decide) ?_
  have hPc := hP.sub (ws' := [(q1, .inr (4, [.int 0, .int 0, .null]))]) [1] rfl
  have hDc := hD.sub (ws' := [(q1, .inr (4, [.int 0, .int 0, .null]))]) [1] (by decide) rfl
  have hKc := hK.sub (tys' := []) [] rfl
  have hFc := va_free (wc := [(q1, .inr (4, [.int 0, .int 0, .null]))]) hD hS hA [1] rfl
  refine va_callv (va_runI (As := [.int 60, .int 5]) (rest := [.ref q1, .ref a0]) ⟨hx, hb, hml, hown, hts⟩ (c_X4_init l dC dI H.size q1 60 5 300 (by decide) (rfl) (Nat.le_of_ble_eq_true rfl)) (cwI 2 hts gg_i_X4_init rfl rfl rfl (hts (.initialized RX4) k_26) (hts (.methodLink RX1 17 yX4_init) k_37) (hts (.instanceMethod yX4_init) k_29) rfl (by decide +kernel) ⟨Nat.le_of_ble_eq_true rfl, Nat.le_of_ble_eq_true rfl⟩) ⟨fun a U g mk q => by obtain ⟨q0, q1, qP, qK, qD⟩ := q; exact ⟨q0, q1, qP, va_K.moved (u := U) (U := U.calling g mk a) (Vm.Alike.refl U.vm) qK, qD⟩, fun U hU hW => ⟨rfl, by rw [hU], by rw [hU]; exact hPc, va_K.moved hW.alike hKc, hDc.weaken (fun _ _ _ _ => trivial)⟩⟩ rfl rfl hl.1 rfl (lv_room (Nat.le_of_ble_eq_true rfl)) dX1_init_17 ⟨Nat.le_of_ble_eq_true rfl, Nat.le_of_ble_eq_true rfl⟩) hS (fun q _ h => hFc q h) hFc (fun u t H1 locs ht hvm hw hB hz1 hk1 hS => ?_)
  obtain ⟨hP1, hK1, hD1⟩ := hB
  rw [ht] at hP1
  have hK1 := va_K.moved hvm.symm hK1
  obtain ⟨hP, hD⟩ := va_join (wr := [(a0, .inr (1, [.ref gs, .null, .null, .int 0, .int 0, .int 0]))]) (w1 := []) hP hD [1] [0] rfl rfl (by decide) (by decide) hk1 hFc hP1 hD1
  have hK := (hK.sub (tys' := []) [] rfl).app hK1
  generalize H1 = H at hP hS ⊢
  have hP : va_P (dC, dI) vwCl [(a0, .inr (1, [.ref gs, .null, .null, .int 0, .int 0, .int 0]))] H := hP
  have hD : va_D A [(a0, .inr (1, [.ref gs, .null, .null, .int 0, .int 0, .int 0]))] := hD
  have hK : va_K (dC, dI) vwCl [] s := hK
  refine W.widen (k := 2) (n := 303) (Nat.le_of_ble_eq_true rfl) (Nat.le_of_ble_eq_true rfl) ?_
  refine va_putF (D := (dC, dI)) (ci := 1) (v := .ref q1) (ty := .object "LoopEnvelopes$Table") (C := RX1) (T := TX1) (N := 6) hx hb hts inAll_1 tyX1 tyX1_ok nmX1 hown hK hP hD hS 0 rfl rfl 1 (by decide) (hts (.fieldLink RX1 20 "LoopEnvelopes$Frames" "groups" "LLoopEnvelopes$Table;") k_38) (fun _ h9 => h9) rfl hin rfl (by decide +kernel) rfl rfl (Nat.le_of_ble_eq_true rfl) dX1_init_20 (fun H locs hP hD hS => ?_)
  have hP : va_P (dC, dI) vwCl [(a0, .inr (1, [.ref gs, .ref q1, .null, .int 0, .int 0, .int 0]))] H := hP
  have hD : va_D A [(a0, .inr (1, [.ref gs, .ref q1, .null, .int 0, .int 0, .int 0]))] := hD
  refine lv_aload_n hx hb dX1_init_23 rfl (lv_at hl 0 rfl) ?_
  refine va_new (ci := 4) (fs := [.int 0, .int 0, .null]) (C := RX4) (T := TX4) (N := 3) hx hb hts inAll_4 tyX4 tyX4_ok hown (hts (.classLink RX1 15 RX4) k_36) (hts (.instantiable RX4 3) k_25) (hts (.initialized RX4) k_26) hK hP hD hS hA rfl (fun j hj => by rcases (show j = 0 ∨ j = 1 ∨ j = 2 by omega) with rfl | rfl | rfl <;> rfl) (Nat.le_of_ble_eq_true rfl) (Nat.le_of_ble_eq_true rfl) dX1_init_24 (fun q3 H hP hD hS => ?_)
  have hP : va_P (dC, dI) vwCl [(a0, .inr (1, [.ref gs, .ref q1, .null, .int 0, .int 0, .int 0])), (q3, .inr (4, [.int 0, .int 0, .null]))] H := hP
  have hD : va_D A [(a0, .inr (1, [.ref gs, .ref q1, .null, .int 0, .int 0, .int 0])), (q3, .inr (4, [.int 0, .int 0, .null]))] := hD
  refine W.widen (k := 3) (n := 306) (Nat.le_of_ble_eq_true rfl) (Nat.le_of_ble_eq_true rfl) ?_
  refine lv_dup hx hb dX1_init_27 rfl ?_
  refine lv_bipush (v := 24) hx hb dX1_init_28 (by decide) ?_
  refine lv_bipush (v := 7) hx hb dX1_init_30 (by decide) ?_
  have hPc := hP.sub (ws' := [(q3, .inr (4, [.int 0, .int 0, .null]))]) [1] rfl
  have hDc := hD.sub (ws' := [(q3, .inr (4, [.int 0, .int 0, .null]))]) [1] (by decide) rfl
  have hKc := hK.sub (tys' := []) [] rfl
  have hFc := va_free (wc := [(q3, .inr (4, [.int 0, .int 0, .null]))]) hD hS hA [1] rfl
  refine va_callv (va_runI (As := [.int 24, .int 7]) (rest := [.ref q3, .ref a0]) ⟨hx, hb, hml, hown, hts⟩ (c_X4_init l dC dI H.size q3 24 7 168 (by decide) (rfl) (Nat.le_of_ble_eq_true rfl)) (cwI 2 hts gg_i_X4_init rfl rfl rfl (hts (.initialized RX4) k_26) (hts (.methodLink RX1 17 yX4_init) k_37) (hts (.instanceMethod yX4_init) k_29) rfl (by decide +kernel) ⟨Nat.le_of_ble_eq_true rfl, Nat.le_of_ble_eq_true rfl⟩) ⟨fun a U g mk q => by obtain ⟨q0, q1, qP, qK, qD⟩ := q; exact ⟨q0, q1, qP, va_K.moved (u := U) (U := U.calling g mk a) (Vm.Alike.refl U.vm) qK, qD⟩, fun U hU hW => ⟨rfl, by rw [hU], by rw [hU]; exact hPc, va_K.moved hW.alike hKc, hDc.weaken (fun _ _ _ _ => trivial)⟩⟩ rfl rfl hl.1 rfl (lv_room (Nat.le_of_ble_eq_true rfl)) dX1_init_32 ⟨Nat.le_of_ble_eq_true rfl, Nat.le_of_ble_eq_true rfl⟩) hS (fun q _ h => hFc q h) hFc (fun u t H1 locs ht hvm hw hB hz1 hk1 hS => ?_)
  obtain ⟨hP1, hK1, hD1⟩ := hB
  rw [ht] at hP1
  have hK1 := va_K.moved hvm.symm hK1
  obtain ⟨hP, hD⟩ := va_join (wr := [(a0, .inr (1, [.ref gs, .ref q1, .null, .int 0, .int 0, .int 0]))]) (w1 := []) hP hD [1] [0] rfl rfl (by decide) (by decide) hk1 hFc hP1 hD1
  have hK := (hK.sub (tys' := []) [] rfl).app hK1
  generalize H1 = H at hP hS ⊢
  have hP : va_P (dC, dI) vwCl [(a0, .inr (1, [.ref gs, .ref q1, .null, .int 0, .int 0, .int 0]))] H := hP
  have hD : va_D A [(a0, .inr (1, [.ref gs, .ref q1, .null, .int 0, .int 0, .int 0]))] := hD
  have hK : va_K (dC, dI) vwCl [] s := hK
  refine W.widen (k := 4) (n := 474) (Nat.le_of_ble_eq_true rfl) (Nat.le_of_ble_eq_true rfl) ?_
  refine va_putF (D := (dC, dI)) (ci := 1) (v := .ref q3) (ty := .object "LoopEnvelopes$Table") (C := RX1) (T := TX1) (N := 6) hx hb hts inAll_1 tyX1 tyX1_ok nmX1 hown hK hP hD hS 0 rfl rfl 2 (by decide) (hts (.fieldLink RX1 24 "LoopEnvelopes$Frames" "sets" "LLoopEnvelopes$Table;") k_39) (fun _ h9 => h9) rfl hin rfl (by decide +kernel) rfl rfl (Nat.le_of_ble_eq_true rfl) dX1_init_35 (fun H locs hP hD hS => ?_)
  have hP : va_P (dC, dI) vwCl [(a0, .inr (1, [.ref gs, .ref q1, .ref q3, .int 0, .int 0, .int 0]))] H := hP
  have hD : va_D A [(a0, .inr (1, [.ref gs, .ref q1, .ref q3, .int 0, .int 0, .int 0]))] := hD
  refine lv_aload_n hx hb dX1_init_38 rfl (lv_at hl 0 rfl) ?_
  refine lv_iconst (v := 0) hx hb dX1_init_39 (by decide) ?_
  refine va_put (D := (dC, dI)) (ci := 1) (v := .int 0) (ty := .int) (C := RX1) (T := TX1) (N := 6) hx hb hts inAll_1 tyX1 tyX1_ok nmX1 hown hK hP hD hS 0 rfl rfl 3 (by decide) (hts (.fieldLink RX1 27 "LoopEnvelopes$Frames" "groupsHeld" "I") k_40) (fun _ h9 => h9) rfl (by decide +kernel) rfl rfl (Nat.le_of_ble_eq_true rfl) dX1_init_40 (fun H locs hP hD hS => ?_)
  have hP : va_P (dC, dI) vwCl [(a0, .inr (1, [.ref gs, .ref q1, .ref q3, .int 0, .int 0, .int 0]))] H := hP
  have hD : va_D A [(a0, .inr (1, [.ref gs, .ref q1, .ref q3, .int 0, .int 0, .int 0]))] := hD
  refine lv_aload_n hx hb dX1_init_43 rfl (lv_at hl 0 rfl) ?_
  refine lv_iconst (v := 0) hx hb dX1_init_44 (by decide) ?_
  refine va_put (D := (dC, dI)) (ci := 1) (v := .int 0) (ty := .int) (C := RX1) (T := TX1) (N := 6) hx hb hts inAll_1 tyX1 tyX1_ok nmX1 hown hK hP hD hS 0 rfl rfl 4 (by decide) (hts (.fieldLink RX1 31 "LoopEnvelopes$Frames" "setsHeld" "I") k_41) (fun _ h9 => h9) rfl (by decide +kernel) rfl rfl (Nat.le_of_ble_eq_true rfl) dX1_init_45 (fun H locs hP hD hS => ?_)
  have hP : va_P (dC, dI) vwCl [(a0, .inr (1, [.ref gs, .ref q1, .ref q3, .int 0, .int 0, .int 0]))] H := hP
  have hD : va_D A [(a0, .inr (1, [.ref gs, .ref q1, .ref q3, .int 0, .int 0, .int 0]))] := hD
  refine lv_aload_n hx hb dX1_init_48 rfl (lv_at hl 0 rfl) ?_
  refine lv_iconst (v := 0) hx hb dX1_init_49 (by decide) ?_
  refine va_put (D := (dC, dI)) (ci := 1) (v := .int 0) (ty := .int) (C := RX1) (T := TX1) (N := 6) hx hb hts inAll_1 tyX1 tyX1_ok nmX1 hown hK hP hD hS 0 rfl rfl 5 (by decide) (hts (.fieldLink RX1 34 "LoopEnvelopes$Frames" "stage" "I") k_42) (fun _ h9 => h9) rfl (by decide +kernel) rfl rfl (Nat.le_of_ble_eq_true rfl) dX1_init_50 (fun H locs hP hD hS => ?_)
  have hP : va_P (dC, dI) vwCl [(a0, .inr (1, [.ref gs, .ref q1, .ref q3, .int 0, .int 0, .int 0]))] H := hP
  have hD : va_D A [(a0, .inr (1, [.ref gs, .ref q1, .ref q3, .int 0, .int 0, .int 0]))] := hD
  have hP9 := hP.sub (ws' := [(a0, .inr (1, [.ref gs, .ref q1, .ref q3, .int 0, .int 0, .int 0]))]) [0] rfl
  have hD9 := hD.sub (ws' := [(a0, .inr (1, [.ref gs, .ref q1, .ref q3, .int 0, .int 0, .int 0]))]) [0] (by decide) rfl
  have hK9 := hK.sub (tys' := []) [] rfl
  refine W.widen (k := 4) (n := 474) (Nat.le_of_ble_eq_true rfl) (Nat.le_of_ble_eq_true rfl) ?_
  exact W.vret hx hb hr (fun t ht hW => ⟨⟨(), rfl, trivial, q1, q3, by rw [ht]; exact hP9, va_K.moved hW.alike hK9, hD9⟩, hS.F ht⟩) hS.2.2 dX1_init_53

set_option maxHeartbeats 4000000 in
set_option maxRecDepth 100000 in
/-- Judge(segments, frames) -/
theorem c_X2_init (l : Launch) (dC : Nat → ClassId) (dI : Nat → Nat → Nat) (sz : Nat) (a0 : Nat) (gs : Nat) (gf : Nat) : Met l yX2_init pwX2_init ({ frames := 2, cells := 2, slots := 483, locals := 42 } : Room) (va_Pc [.ref a0, .ref gs, .ref gf] (fun U => U.heap.size = sz ∧ va_P (dC, dI) vwCl [(a0, .inr (2, [.null, .null, .null, .int 0, .int 0]))] U.heap ∧ va_K (dC, dI) vwCl [] U ∧ va_D (fun _ => True) [(a0, .inr (2, [.null, .null, .null, .int 0, .int 0]))])) (va_Qv (fun _ : Unit => True) (fun (_ : Unit) (t : State) => va_P (dC, dI) vwCl [] t.heap ∧ va_K (dC, dI) vwCl [] t ∧ va_D (va_A [(a0, .inr (2, [.null, .null, .null, .int 0, .int 0]))] sz) []) (va_A [(a0, .inr (2, [.null, .null, .null, .int 0, .int 0]))] sz)) 2 483 (va_A [(a0, .inr (2, [.null, .null, .null, .int 0, .int 0]))] sz) := by
  refine Met.ofW (cc := cX2_init) (maxL := 3) (ret := none) (by decide) rfl ?_
  intro p e s m args below meth c s₁ B hml hv
  obtain ⟨rfl, hsz, hP, hK, hD0⟩ := hv
  have hx := B.exec
  have hb := B.bytes
  have hr := B.returns
  have hts0 := atoms_spec (ws := pwX2_init) B.pre
  have hts := fun w (h : w ∈ pwAll) => hts0 w (List.mem_cons_of_mem _ h)
  have hown : s.vm.findClass RX2 = some m.cls := findClass_of_methodNamed B.named
  have hlocks := B.notSynchronized
  have hin : meth.name = "<init>" := (name_of_methodNamed B.named B.method).1
  subst hsz
  have hD := hD0.self (sz := s.heap.size)
  generalize hAe : va_A [(a0, .inr (2, [.null, .null, .null, .int 0, .int 0]))] s.heap.size = A at hD ⊢
  have hA : ∀ q : Nat, s.heap.size ≤ q → A q := fun q h => by rw [← hAe]; exact Or.inr h
  have hS : va_S A s.heap s.heap [] := va_S.rf
  have hP : va_P (dC, dI) vwCl [(a0, .inr (2, [.null, .null, .null, .int 0, .int 0]))] s.heap := hP
  have hl := lv_entry ([.ref a0, .ref gs, .ref gf]) (n := 3) (Nat.le_of_ble_eq_true rfl)
  rw [lg_entry_eq]
  generalize (lg_sl ([.ref a0, .ref gs, .ref gf]) ++ List.replicate (3 - (lg_sl ([.ref a0, .ref gs, .ref gf])).length) Slot.unset).toArray = ls at hl ⊢
  have hl : lv_has ls 3 [(0, .ref a0), (1, .ref gs), (2, .ref gf)] := hl
  refine lv_aload_n hx hb dX2_init_0 rfl (lv_at hl 0 rfl) ?_
  refine W.objInit hx hb hown (hts (.methodLink RX2 3 objectInit) k_43) (hts (.instanceMethod objectInit) k_1) (hts (.code objectInit ⟨#[0xb1]⟩ 1 none) k_2) rfl (by rw [hml]; exact hl.1) rfl dX2_init_1 (Nat.le_of_ble_eq_true rfl) (Nat.le_of_ble_eq_true rfl) ?_
  refine W.eq (g2 := F0 m 4 ls []) rfl ?_
  refine lv_aload_n hx hb dX2_init_4 rfl (lv_at hl 0 rfl) ?_
  refine lv_aload_n hx hb dX2_init_5 rfl (lv_at hl 1 rfl) ?_
  refine va_putF (D := (dC, dI)) (ci := 2) (v := .ref gs) (ty := .object "LoopEnvelopes$Segments") (C := RX2) (T := TX2) (N := 5) hx hb hts inAll_2 tyX2 tyX2_ok nmX2 hown hK hP hD hS 0 rfl rfl 0 (by decide) (hts (.fieldLink RX2 9 "LoopEnvelopes$Judge" "segments" "LLoopEnvelopes$Segments;") k_44) (fun _ h9 => h9) rfl hin rfl (by decide +kernel) rfl rfl (Nat.le_of_ble_eq_true rfl) dX2_init_6 (fun H locs hP hD hS => ?_)
  have hP : va_P (dC, dI) vwCl [(a0, .inr (2, [.ref gs, .null, .null, .int 0, .int 0]))] H := hP
  have hD : va_D A [(a0, .inr (2, [.ref gs, .null, .null, .int 0, .int 0]))] := hD
  refine lv_aload_n hx hb dX2_init_9 rfl (lv_at hl 0 rfl) ?_
  refine lv_aload_n hx hb dX2_init_10 rfl (lv_at hl 2 rfl) ?_
  refine va_putF (D := (dC, dI)) (ci := 2) (v := .ref gf) (ty := .object "LoopEnvelopes$Frames") (C := RX2) (T := TX2) (N := 5) hx hb hts inAll_2 tyX2 tyX2_ok nmX2 hown hK hP hD hS 0 rfl rfl 1 (by decide) (hts (.fieldLink RX2 15 "LoopEnvelopes$Judge" "frames" "LLoopEnvelopes$Frames;") k_45) (fun _ h9 => h9) rfl hin rfl (by decide +kernel) rfl rfl (Nat.le_of_ble_eq_true rfl) dX2_init_11 (fun H locs hP hD hS => ?_)
  have hP : va_P (dC, dI) vwCl [(a0, .inr (2, [.ref gs, .ref gf, .null, .int 0, .int 0]))] H := hP
  have hD : va_D A [(a0, .inr (2, [.ref gs, .ref gf, .null, .int 0, .int 0]))] := hD
  refine lv_aload_n hx hb dX2_init_14 rfl (lv_at hl 0 rfl) ?_
  refine va_new (ci := 4) (fs := [.int 0, .int 0, .null]) (C := RX4) (T := TX4) (N := 3) hx hb hts inAll_4 tyX4 tyX4_ok hown (hts (.classLink RX2 19 RX4) k_46) (hts (.instantiable RX4 3) k_25) (hts (.initialized RX4) k_26) hK hP hD hS hA rfl (fun j hj => by rcases (show j = 0 ∨ j = 1 ∨ j = 2 by omega) with rfl | rfl | rfl <;> rfl) (Nat.le_of_ble_eq_true rfl) (Nat.le_of_ble_eq_true rfl) dX2_init_15 (fun q1 H hP hD hS => ?_)
  have hP : va_P (dC, dI) vwCl [(a0, .inr (2, [.ref gs, .ref gf, .null, .int 0, .int 0])), (q1, .inr (4, [.int 0, .int 0, .null]))] H := hP
  have hD : va_D A [(a0, .inr (2, [.ref gs, .ref gf, .null, .int 0, .int 0])), (q1, .inr (4, [.int 0, .int 0, .null]))] := hD
  refine W.widen (k := 1) (n := 3) (Nat.le_of_ble_eq_true rfl) (Nat.le_of_ble_eq_true rfl) ?_
  refine lv_dup hx hb dX2_init_18 rfl ?_
  refine lv_bipush (v := 120) hx hb dX2_init_19 (by decide) ?_
  refine lv_iconst (v := 4) hx hb dX2_init_21 (by decide) ?_
  have hPc := hP.sub (ws' := [(q1, .inr (4, [.int 0, .int 0, .null]))]) [1] rfl
  have hDc := hD.sub (ws' := [(q1, .inr (4, [.int 0, .int 0, .null]))]) [1] (by decide) rfl
  have hKc := hK.sub (tys' := []) [] rfl
  have hFc := va_free (wc := [(q1, .inr (4, [.int 0, .int 0, .null]))]) hD hS hA [1] rfl
  refine va_callv (va_runI (As := [.int 120, .int 4]) (rest := [.ref q1, .ref a0]) ⟨hx, hb, hml, hown, hts⟩ (c_X4_init l dC dI H.size q1 120 4 480 (by decide) (rfl) (Nat.le_of_ble_eq_true rfl)) (cwI 2 hts gg_i_X4_init rfl rfl rfl (hts (.initialized RX4) k_26) (hts (.methodLink RX2 21 yX4_init) k_47) (hts (.instanceMethod yX4_init) k_29) rfl (by decide +kernel) ⟨Nat.le_of_ble_eq_true rfl, Nat.le_of_ble_eq_true rfl⟩) ⟨fun a U g mk q => by obtain ⟨q0, q1, qP, qK, qD⟩ := q; exact ⟨q0, q1, qP, va_K.moved (u := U) (U := U.calling g mk a) (Vm.Alike.refl U.vm) qK, qD⟩, fun U hU hW => ⟨rfl, by rw [hU], by rw [hU]; exact hPc, va_K.moved hW.alike hKc, hDc.weaken (fun _ _ _ _ => trivial)⟩⟩ rfl rfl hl.1 rfl (lv_room (Nat.le_of_ble_eq_true rfl)) dX2_init_22 ⟨Nat.le_of_ble_eq_true rfl, Nat.le_of_ble_eq_true rfl⟩) hS (fun q _ h => hFc q h) hFc (fun u t H1 locs ht hvm hw hB hz1 hk1 hS => ?_)
  obtain ⟨hP1, hK1, hD1⟩ := hB
  rw [ht] at hP1
  have hK1 := va_K.moved hvm.symm hK1
  obtain ⟨hP, hD⟩ := va_join (wr := [(a0, .inr (2, [.ref gs, .ref gf, .null, .int 0, .int 0]))]) (w1 := []) hP hD [1] [0] rfl rfl (by decide) (by decide) hk1 hFc hP1 hD1
  have hK := (hK.sub (tys' := []) [] rfl).app hK1
  generalize H1 = H at hP hS ⊢
  have hP : va_P (dC, dI) vwCl [(a0, .inr (2, [.ref gs, .ref gf, .null, .int 0, .int 0]))] H := hP
  have hD : va_D A [(a0, .inr (2, [.ref gs, .ref gf, .null, .int 0, .int 0]))] := hD
  have hK : va_K (dC, dI) vwCl [] s := hK
  refine W.widen (k := 2) (n := 483) (Nat.le_of_ble_eq_true rfl) (Nat.le_of_ble_eq_true rfl) ?_
  refine va_putF (D := (dC, dI)) (ci := 2) (v := .ref q1) (ty := .object "LoopEnvelopes$Table") (C := RX2) (T := TX2) (N := 5) hx hb hts inAll_2 tyX2 tyX2_ok nmX2 hown hK hP hD hS 0 rfl rfl 2 (by decide) (hts (.fieldLink RX2 24 "LoopEnvelopes$Judge" "marks" "LLoopEnvelopes$Table;") k_48) (fun _ h9 => h9) rfl hin rfl (by decide +kernel) rfl rfl (Nat.le_of_ble_eq_true rfl) dX2_init_25 (fun H locs hP hD hS => ?_)
  have hP : va_P (dC, dI) vwCl [(a0, .inr (2, [.ref gs, .ref gf, .ref q1, .int 0, .int 0]))] H := hP
  have hD : va_D A [(a0, .inr (2, [.ref gs, .ref gf, .ref q1, .int 0, .int 0]))] := hD
  refine lv_aload_n hx hb dX2_init_28 rfl (lv_at hl 0 rfl) ?_
  refine lv_iconst (v := 0) hx hb dX2_init_29 (by decide) ?_
  refine va_put (D := (dC, dI)) (ci := 2) (v := .int 0) (ty := .int) (C := RX2) (T := TX2) (N := 5) hx hb hts inAll_2 tyX2 tyX2_ok nmX2 hown hK hP hD hS 0 rfl rfl 3 (by decide) (hts (.fieldLink RX2 28 "LoopEnvelopes$Judge" "first" "I") k_49) (fun _ h9 => h9) rfl (by decide +kernel) rfl rfl (Nat.le_of_ble_eq_true rfl) dX2_init_30 (fun H locs hP hD hS => ?_)
  have hP : va_P (dC, dI) vwCl [(a0, .inr (2, [.ref gs, .ref gf, .ref q1, .int 0, .int 0]))] H := hP
  have hD : va_D A [(a0, .inr (2, [.ref gs, .ref gf, .ref q1, .int 0, .int 0]))] := hD
  refine lv_aload_n hx hb dX2_init_33 rfl (lv_at hl 0 rfl) ?_
  refine lv_iconst (v := 0) hx hb dX2_init_34 (by decide) ?_
  refine va_put (D := (dC, dI)) (ci := 2) (v := .int 0) (ty := .int) (C := RX2) (T := TX2) (N := 5) hx hb hts inAll_2 tyX2 tyX2_ok nmX2 hown hK hP hD hS 0 rfl rfl 4 (by decide) (hts (.fieldLink RX2 32 "LoopEnvelopes$Judge" "end" "I") k_50) (fun _ h9 => h9) rfl (by decide +kernel) rfl rfl (Nat.le_of_ble_eq_true rfl) dX2_init_35 (fun H locs hP hD hS => ?_)
  have hP : va_P (dC, dI) vwCl [(a0, .inr (2, [.ref gs, .ref gf, .ref q1, .int 0, .int 0]))] H := hP
  have hD : va_D A [(a0, .inr (2, [.ref gs, .ref gf, .ref q1, .int 0, .int 0]))] := hD
  have hP9 := hP.sub (ws' := []) [] rfl
  have hD9 := hD.sub (ws' := []) [] (by decide) rfl
  have hK9 := hK.sub (tys' := []) [] rfl
  refine W.widen (k := 2) (n := 483) (Nat.le_of_ble_eq_true rfl) (Nat.le_of_ble_eq_true rfl) ?_
  exact W.vret hx hb hr (fun t ht hW => ⟨⟨(), rfl, trivial, by rw [ht]; exact hP9, va_K.moved hW.alike hK9, hD9⟩, hS.F ht⟩) hS.2.2 dX2_init_38

set_option maxHeartbeats 4000000 in
set_option maxRecDepth 100000 in
/-- Writer(segments) -/
theorem c_X5_init (l : Launch) (dC : Nat → ClassId) (dI : Nat → Nat → Nat) (sz : Nat) (a0 : Nat) (gs : Nat) : Met l yX5_init pwX5_init ({ frames := 2, cells := 2, slots := 2002, locals := 41 } : Room) (va_Pc [.ref a0, .ref gs] (fun U => U.heap.size = sz ∧ va_P (dC, dI) vwCl [(a0, .inr (5, [.null, .null, .int 0]))] U.heap ∧ va_K (dC, dI) vwCl [] U ∧ va_D (fun _ => True) [(a0, .inr (5, [.null, .null, .int 0]))])) (va_Qv (fun _ : Unit => True) (fun (_ : Unit) (t : State) => ∃ (qb : Nat) (qa : Nat), va_P (dC, dI) vwCl [(a0, .inr (5, [.ref gs, .ref qb, .int 0])), (qb, .inr (0, [.ref qa, .int 0]))] t.heap ∧ va_K (dC, dI) vwCl [] t ∧ va_D (va_A [(a0, .inr (5, [.null, .null, .int 0]))] sz) [(a0, .inr (5, [.ref gs, .ref qb, .int 0])), (qb, .inr (0, [.ref qa, .int 0]))]) (va_A [(a0, .inr (5, [.null, .null, .int 0]))] sz)) 2 2002 (va_A [(a0, .inr (5, [.null, .null, .int 0]))] sz) := by
  refine Met.ofW (cc := cX5_init) (maxL := 2) (ret := none) (by decide) rfl ?_
  intro p e s m args below meth c s₁ B hml hv
  obtain ⟨rfl, hsz, hP, hK, hD0⟩ := hv
  have hx := B.exec
  have hb := B.bytes
  have hr := B.returns
  have hts0 := atoms_spec (ws := pwX5_init) B.pre
  have hts := fun w (h : w ∈ pwAll) => hts0 w (List.mem_cons_of_mem _ h)
  have hown : s.vm.findClass RX5 = some m.cls := findClass_of_methodNamed B.named
  have hlocks := B.notSynchronized
  have hin : meth.name = "<init>" := (name_of_methodNamed B.named B.method).1
  subst hsz
  have hD := hD0.self (sz := s.heap.size)
  generalize hAe : va_A [(a0, .inr (5, [.null, .null, .int 0]))] s.heap.size = A at hD ⊢
  have hA : ∀ q : Nat, s.heap.size ≤ q → A q := fun q h => by rw [← hAe]; exact Or.inr h
  have hS : va_S A s.heap s.heap [] := va_S.rf
  have hP : va_P (dC, dI) vwCl [(a0, .inr (5, [.null, .null, .int 0]))] s.heap := hP
  have hl := lv_entry ([.ref a0, .ref gs]) (n := 2) (Nat.le_of_ble_eq_true rfl)
  rw [lg_entry_eq]
  generalize (lg_sl ([.ref a0, .ref gs]) ++ List.replicate (2 - (lg_sl ([.ref a0, .ref gs])).length) Slot.unset).toArray = ls at hl ⊢
  have hl : lv_has ls 2 [(0, .ref a0), (1, .ref gs)] := hl
  refine lv_aload_n hx hb dX5_init_0 rfl (lv_at hl 0 rfl) ?_
  refine W.objInit hx hb hown (hts (.methodLink RX5 3 objectInit) k_51) (hts (.instanceMethod objectInit) k_1) (hts (.code objectInit ⟨#[0xb1]⟩ 1 none) k_2) rfl (by rw [hml]; exact hl.1) rfl dX5_init_1 (Nat.le_of_ble_eq_true rfl) (Nat.le_of_ble_eq_true rfl) ?_
  refine W.eq (g2 := F0 m 4 ls []) rfl ?_
  refine lv_aload_n hx hb dX5_init_4 rfl (lv_at hl 0 rfl) ?_
  refine lv_aload_n hx hb dX5_init_5 rfl (lv_at hl 1 rfl) ?_
  refine va_putF (D := (dC, dI)) (ci := 5) (v := .ref gs) (ty := .object "LoopEnvelopes$Segments") (C := RX5) (T := TX5) (N := 3) hx hb hts inAll_5 tyX5 tyX5_ok nmX5 hown hK hP hD hS 0 rfl rfl 0 (by decide) (hts (.fieldLink RX5 9 "LoopEnvelopes$Writer" "segments" "LLoopEnvelopes$Segments;") k_52) (fun _ h9 => h9) rfl hin rfl (by decide +kernel) rfl rfl (Nat.le_of_ble_eq_true rfl) dX5_init_6 (fun H locs hP hD hS => ?_)
  have hP : va_P (dC, dI) vwCl [(a0, .inr (5, [.ref gs, .null, .int 0]))] H := hP
  have hD : va_D A [(a0, .inr (5, [.ref gs, .null, .int 0]))] := hD
  refine lv_aload_n hx hb dX5_init_9 rfl (lv_at hl 0 rfl) ?_
  refine va_new (ci := 0) (fs := [.null, .int 0]) (C := RX0) (T := TX0) (N := 2) hx hb hts inAll_0 tyX0 tyX0_ok hown (hts (.classLink RX5 15 RX0) k_53) (hts (.instantiable RX0 2) k_18) (hts (.initialized RX0) k_19) hK hP hD hS hA rfl (fun j hj => by rcases (show j = 0 ∨ j = 1 by omega) with rfl | rfl <;> rfl) (Nat.le_of_ble_eq_true rfl) (Nat.le_of_ble_eq_true rfl) dX5_init_10 (fun q1 H hP hD hS => ?_)
  have hP : va_P (dC, dI) vwCl [(a0, .inr (5, [.ref gs, .null, .int 0])), (q1, .inr (0, [.null, .int 0]))] H := hP
  have hD : va_D A [(a0, .inr (5, [.ref gs, .null, .int 0])), (q1, .inr (0, [.null, .int 0]))] := hD
  refine W.widen (k := 1) (n := 2) (Nat.le_of_ble_eq_true rfl) (Nat.le_of_ble_eq_true rfl) ?_
  refine lv_dup hx hb dX5_init_13 rfl ?_
  refine lv_sipush (v := 2000) hx hb dX5_init_14 (by decide) ?_
  have hPc := hP.sub (ws' := [(q1, .inr (0, [.null, .int 0]))]) [1] rfl
  have hDc := hD.sub (ws' := [(q1, .inr (0, [.null, .int 0]))]) [1] (by decide) rfl
  have hKc := hK.sub (tys' := []) [] rfl
  have hFc := va_free (wc := [(q1, .inr (0, [.null, .int 0]))]) hD hS hA [1] rfl
  refine va_callv (va_runI (As := [.int 2000]) (rest := [.ref q1, .ref a0]) ⟨hx, hb, hml, hown, hts⟩ (c_X0_init l dC dI H.size q1 2000 2000 (by decide) (rfl) (Nat.le_of_ble_eq_true rfl)) (cwI 1 hts gg_i_X0_init rfl rfl rfl (hts (.initialized RX0) k_19) (hts (.methodLink RX5 17 yX0_init) k_54) (hts (.instanceMethod yX0_init) k_22) rfl (by decide +kernel) ⟨Nat.le_of_ble_eq_true rfl, Nat.le_of_ble_eq_true rfl⟩) ⟨fun a U g mk q => by obtain ⟨q0, q1, qP, qK, qD⟩ := q; exact ⟨q0, q1, qP, va_K.moved (u := U) (U := U.calling g mk a) (Vm.Alike.refl U.vm) qK, qD⟩, fun U hU hW => ⟨rfl, by rw [hU], by rw [hU]; exact hPc, va_K.moved hW.alike hKc, hDc.weaken (fun _ _ _ _ => trivial)⟩⟩ rfl rfl hl.1 rfl (lv_room (Nat.le_of_ble_eq_true rfl)) dX5_init_17 ⟨Nat.le_of_ble_eq_true rfl, Nat.le_of_ble_eq_true rfl⟩) hS (fun q _ h => hFc q h) hFc (fun u t H1 locs ht hvm hw hB hz1 hk1 hS => ?_)
  obtain ⟨qa3, cA4, hP1, hK1, hD1⟩ := hB
  rw [ht] at hP1
  have hK1 := va_K.moved hvm.symm hK1
  obtain ⟨hP, hD⟩ := va_join (wr := [(a0, .inr (5, [.ref gs, .null, .int 0]))]) (w1 := [(q1, .inr (0, [.ref qa3, .int 0])), (qa3, .inl (cA4, 2000, .inl (fun _ => 0)))]) hP hD [1] [0] rfl rfl (by decide) (by decide) hk1 hFc hP1 hD1
  have hK := (hK.sub (tys' := []) [] rfl).app hK1
  generalize H1 = H at hP hS ⊢
  have hP : va_P (dC, dI) vwCl [(a0, .inr (5, [.ref gs, .null, .int 0])), (q1, .inr (0, [.ref qa3, .int 0])), (qa3, .inl (cA4, 2000, .inl (fun _ => 0)))] H := hP
  have hD : va_D A [(a0, .inr (5, [.ref gs, .null, .int 0])), (q1, .inr (0, [.ref qa3, .int 0])), (qa3, .inl (cA4, 2000, .inl (fun _ => 0)))] := hD
  have hK : va_K (dC, dI) vwCl [(cA4, .byte)] s := hK
  refine W.widen (k := 2) (n := 2002) (Nat.le_of_ble_eq_true rfl) (Nat.le_of_ble_eq_true rfl) ?_
  refine va_putF (D := (dC, dI)) (ci := 5) (v := .ref q1) (ty := .object "LoopEnvelopes$Bytes") (C := RX5) (T := TX5) (N := 3) hx hb hts inAll_5 tyX5 tyX5_ok nmX5 hown hK hP hD hS 0 rfl rfl 1 (by decide) (hts (.fieldLink RX5 20 "LoopEnvelopes$Writer" "bytes" "LLoopEnvelopes$Bytes;") k_55) (fun _ h9 => h9) rfl hin rfl (by decide +kernel) rfl rfl (Nat.le_of_ble_eq_true rfl) dX5_init_20 (fun H locs hP hD hS => ?_)
  have hP : va_P (dC, dI) vwCl [(a0, .inr (5, [.ref gs, .ref q1, .int 0])), (q1, .inr (0, [.ref qa3, .int 0])), (qa3, .inl (cA4, 2000, .inl (fun _ => 0)))] H := hP
  have hD : va_D A [(a0, .inr (5, [.ref gs, .ref q1, .int 0])), (q1, .inr (0, [.ref qa3, .int 0])), (qa3, .inl (cA4, 2000, .inl (fun _ => 0)))] := hD
  refine lv_aload_n hx hb dX5_init_23 rfl (lv_at hl 0 rfl) ?_
  refine lv_iconst (v := 0) hx hb dX5_init_24 (by decide) ?_
  refine va_put (D := (dC, dI)) (ci := 5) (v := .int 0) (ty := .boolean) (C := RX5) (T := TX5) (N := 3) hx hb hts inAll_5 tyX5 tyX5_ok nmX5 hown hK hP hD hS 0 rfl rfl 2 (by decide) (hts (.fieldLink RX5 24 "LoopEnvelopes$Writer" "over" "Z") k_56) (fun _ h9 => h9) rfl (by decide +kernel) rfl rfl (Nat.le_of_ble_eq_true rfl) dX5_init_25 (fun H locs hP hD hS => ?_)
  have hP : va_P (dC, dI) vwCl [(a0, .inr (5, [.ref gs, .ref q1, .int 0])), (q1, .inr (0, [.ref qa3, .int 0])), (qa3, .inl (cA4, 2000, .inl (fun _ => 0)))] H := hP
  have hD : va_D A [(a0, .inr (5, [.ref gs, .ref q1, .int 0])), (q1, .inr (0, [.ref qa3, .int 0])), (qa3, .inl (cA4, 2000, .inl (fun _ => 0)))] := hD
  have hP9 := hP.sub (ws' := [(a0, .inr (5, [.ref gs, .ref q1, .int 0])), (q1, .inr (0, [.ref qa3, .int 0]))]) [0, 1] rfl
  have hD9 := hD.sub (ws' := [(a0, .inr (5, [.ref gs, .ref q1, .int 0])), (q1, .inr (0, [.ref qa3, .int 0]))]) [0, 1] (by decide) rfl
  have hK9 := hK.sub (tys' := []) [] rfl
  refine W.widen (k := 2) (n := 2002) (Nat.le_of_ble_eq_true rfl) (Nat.le_of_ble_eq_true rfl) ?_
  exact W.vret hx hb hr (fun t ht hW => ⟨⟨(), rfl, trivial, q1, qa3, by rw [ht]; exact hP9, va_K.moved hW.alike hK9, hD9⟩, hS.F ht⟩) hS.2.2 dX5_init_28

set_option maxHeartbeats 4000000 in
set_option maxRecDepth 100000 in
/-- LoopEnvelopes() -/
theorem c_X6_init (l : Launch) (dC : Nat → ClassId) (dI : Nat → Nat → Nat) (sz : Nat) (a0 : Nat) : Met l yX6_init pwX6_init ({ frames := 3, cells := 22, slots := 6831, locals := 64 } : Room) (va_Pc [.ref a0] (fun U => U.heap.size = sz ∧ va_P (dC, dI) vwCl [(a0, .inr (6, [.null, .null, .null, .null, .null, .int 0, .int 0]))] U.heap ∧ va_K (dC, dI) vwCl [] U ∧ va_D (fun _ => True) [(a0, .inr (6, [.null, .null, .null, .null, .null, .int 0, .int 0]))])) (va_Qv (fun _ : Unit => True) (fun (_ : Unit) (t : State) => ∃ (a1 : Nat) (a2 : Nat) (a3 : Nat) (a4 : Nat) (a5 : Nat) (ya : Nat) (b2 : Nat) (t1 : Nat) (t2 : Nat) (t3 : Nat) (yb : Nat) (h1 : Nat) (h2 : Nat) (h3 : Nat) (h4 : Nat) (b5 : Nat) (yc : Nat) (cA : ClassId) (f0 : Nat → Int32), va_P (dC, dI) vwCl [(a0, .inr (6, [.ref a1, .ref a2, .ref a3, .ref a4, .ref a5, .int (-1), .int 0])), (a1, .inr (0, [.ref ya, .int 0])), (ya, .inl (cA, 1200, .inl f0)), (a2, .inr (3, [.ref b2, .ref t1, .ref t2, .ref t3, .int 0])), (b2, .inr (0, [.ref yb, .int 0])), (a3, .inr (1, [.ref h1, .ref h2, .ref h3, .int 0, .int 0, .int 0])), (a5, .inr (5, [.ref h4, .ref b5, .int 0])), (b5, .inr (0, [.ref yc, .int 0]))] t.heap ∧ va_K (dC, dI) vwCl [(cA, .byte)] t ∧ va_D (va_A [(a0, .inr (6, [.null, .null, .null, .null, .null, .int 0, .int 0]))] sz) [(a0, .inr (6, [.ref a1, .ref a2, .ref a3, .ref a4, .ref a5, .int (-1), .int 0])), (a1, .inr (0, [.ref ya, .int 0])), (ya, .inl (cA, 1200, .inl f0)), (a2, .inr (3, [.ref b2, .ref t1, .ref t2, .ref t3, .int 0])), (b2, .inr (0, [.ref yb, .int 0])), (a3, .inr (1, [.ref h1, .ref h2, .ref h3, .int 0, .int 0, .int 0])), (a5, .inr (5, [.ref h4, .ref b5, .int 0])), (b5, .inr (0, [.ref yc, .int 0]))]) (va_A [(a0, .inr (6, [.null, .null, .null, .null, .null, .int 0, .int 0]))] sz)) 22 6831 (va_A [(a0, .inr (6, [.null, .null, .null, .null, .null, .int 0, .int 0]))] sz) := by
  refine Met.ofW (cc := cX6_init) (maxL := 1) (ret := none) (by decide) rfl ?_
  intro p e s m args below meth c s₁ B hml hv
  obtain ⟨rfl, hsz, hP, hK, hD0⟩ := hv
  have hx := B.exec
  have hb := B.bytes
  have hr := B.returns
  have hts0 := atoms_spec (ws := pwX6_init) B.pre
  have hts := fun w (h : w ∈ pwAll) => hts0 w (List.mem_cons_of_mem _ h)
  have hown : s.vm.findClass RX6 = some m.cls := findClass_of_methodNamed B.named
  have hlocks := B.notSynchronized
  have hin : meth.name = "<init>" := (name_of_methodNamed B.named B.method).1
  subst hsz
  have hD := hD0.self (sz := s.heap.size)
  generalize hAe : va_A [(a0, .inr (6, [.null, .null, .null, .null, .null, .int 0, .int 0]))] s.heap.size = A at hD ⊢
  have hA : ∀ q : Nat, s.heap.size ≤ q → A q := fun q h => by rw [← hAe]; exact Or.inr h
  have hS : va_S A s.heap s.heap [] := va_S.rf
  have hP : va_P (dC, dI) vwCl [(a0, .inr (6, [.null, .null, .null, .null, .null, .int 0, .int 0]))] s.heap := hP
  have hl := lv_entry ([.ref a0]) (n := 1) (Nat.le_of_ble_eq_true rfl)
  rw [lg_entry_eq]
  generalize (lg_sl ([.ref a0]) ++ List.replicate (1 - (lg_sl ([.ref a0])).length) Slot.unset).toArray = ls at hl ⊢
  have hl : lv_has ls 1 [(0, .ref a0)] := hl
  refine lv_aload_n hx hb dX6_init_0 rfl (lv_at hl 0 rfl) ?_
  refine W.objInit hx hb hown (hts (.methodLink RX6 3 objectInit) k_57) (hts (.instanceMethod objectInit) k_1) (hts (.code objectInit ⟨#[0xb1]⟩ 1 none) k_2) rfl (by rw [hml]; exact hl.1) rfl dX6_init_1 (Nat.le_of_ble_eq_true rfl) (Nat.le_of_ble_eq_true rfl) ?_
  refine W.eq (g2 := F0 m 4 ls []) rfl ?_
  refine lv_aload_n hx hb dX6_init_4 rfl (lv_at hl 0 rfl) ?_
  refine va_new (ci := 0) (fs := [.null, .int 0]) (C := RX0) (T := TX0) (N := 2) hx hb hts inAll_0 tyX0 tyX0_ok hown (hts (.classLink RX6 9 RX0) k_58) (hts (.instantiable RX0 2) k_18) (hts (.initialized RX0) k_19) hK hP hD hS hA rfl (fun j hj => by rcases (show j = 0 ∨ j = 1 by omega) with rfl | rfl <;> rfl) (Nat.le_of_ble_eq_true rfl) (Nat.le_of_ble_eq_true rfl) dX6_init_5 (fun q1 H hP hD hS => ?_)
  have hP : va_P (dC, dI) vwCl [(a0, .inr (6, [.null, .null, .null, .null, .null, .int 0, .int 0])), (q1, .inr (0, [.null, .int 0]))] H := hP
  have hD : va_D A [(a0, .inr (6, [.null, .null, .null, .null, .null, .int 0, .int 0])), (q1, .inr (0, [.null, .int 0]))] := hD
  refine W.widen (k := 1) (n := 2) (Nat.le_of_ble_eq_true rfl) (Nat.le_of_ble_eq_true rfl) ?_
  refine lv_dup hx hb dX6_init_8 rfl ?_
  refine lv_sipush (v := 1200) hx hb dX6_init_9 (by decide) ?_
  have hPc := hP.sub (ws' := [(q1, .inr (0, [.null, .int 0]))]) [1] rfl
  have hDc := hD.sub (ws' := [(q1, .inr (0, [.null, .int 0]))]) [1] (by decide) rfl
  have hKc := hK.sub (tys' := []) [] rfl
  have hFc := va_free (wc := [(q1, .inr (0, [.null, .int 0]))]) hD hS hA [1] rfl
  refine va_callv (va_runI (As := [.int 1200]) (rest := [.ref q1, .ref a0]) ⟨hx, hb, hml, hown, hts⟩ (c_X0_init l dC dI H.size q1 1200 1200 (by decide) (rfl) (Nat.le_of_ble_eq_true rfl)) (cwI 1 hts gg_i_X0_init rfl rfl rfl (hts (.initialized RX0) k_19) (hts (.methodLink RX6 11 yX0_init) k_59) (hts (.instanceMethod yX0_init) k_22) rfl (by decide +kernel) ⟨Nat.le_of_ble_eq_true rfl, Nat.le_of_ble_eq_true rfl⟩) ⟨fun a U g mk q => by obtain ⟨q0, q1, qP, qK, qD⟩ := q; exact ⟨q0, q1, qP, va_K.moved (u := U) (U := U.calling g mk a) (Vm.Alike.refl U.vm) qK, qD⟩, fun U hU hW => ⟨rfl, by rw [hU], by rw [hU]; exact hPc, va_K.moved hW.alike hKc, hDc.weaken (fun _ _ _ _ => trivial)⟩⟩ rfl rfl hl.1 rfl (lv_room (Nat.le_of_ble_eq_true rfl)) dX6_init_12 ⟨Nat.le_of_ble_eq_true rfl, Nat.le_of_ble_eq_true rfl⟩) hS (fun q _ h => hFc q h) hFc (fun u t H1 locs ht hvm hw hB hz1 hk1 hS => ?_)
  obtain ⟨qa3, cA4, hP1, hK1, hD1⟩ := hB
  rw [ht] at hP1
  have hK1 := va_K.moved hvm.symm hK1
  obtain ⟨hP, hD⟩ := va_join (wr := [(a0, .inr (6, [.null, .null, .null, .null, .null, .int 0, .int 0]))]) (w1 := [(q1, .inr (0, [.ref qa3, .int 0])), (qa3, .inl (cA4, 1200, .inl (fun _ => 0)))]) hP hD [1] [0] rfl rfl (by decide) (by decide) hk1 hFc hP1 hD1
  have hK := (hK.sub (tys' := []) [] rfl).app hK1
  generalize H1 = H at hP hS ⊢
  have hP : va_P (dC, dI) vwCl [(a0, .inr (6, [.null, .null, .null, .null, .null, .int 0, .int 0])), (q1, .inr (0, [.ref qa3, .int 0])), (qa3, .inl (cA4, 1200, .inl (fun _ => 0)))] H := hP
  have hD : va_D A [(a0, .inr (6, [.null, .null, .null, .null, .null, .int 0, .int 0])), (q1, .inr (0, [.ref qa3, .int 0])), (qa3, .inl (cA4, 1200, .inl (fun _ => 0)))] := hD
  have hK : va_K (dC, dI) vwCl [(cA4, .byte)] s := hK
  refine W.widen (k := 2) (n := 1202) (Nat.le_of_ble_eq_true rfl) (Nat.le_of_ble_eq_true rfl) ?_
  refine va_putF (D := (dC, dI)) (ci := 6) (v := .ref q1) (ty := .object "LoopEnvelopes$Bytes") (C := RX6) (T := TX6) (N := 7) hx hb hts inAll_6 tyX6 tyX6_ok nmX6 hown hK hP hD hS 0 rfl rfl 0 (by decide) (hts (.fieldLink RX6 14 "LoopEnvelopes" "text" "LLoopEnvelopes$Bytes;") k_60) (fun _ h9 => h9) rfl hin rfl (by decide +kernel) rfl rfl (Nat.le_of_ble_eq_true rfl) dX6_init_15 (fun H locs hP hD hS => ?_)
  have hP : va_P (dC, dI) vwCl [(a0, .inr (6, [.ref q1, .null, .null, .null, .null, .int 0, .int 0])), (q1, .inr (0, [.ref qa3, .int 0])), (qa3, .inl (cA4, 1200, .inl (fun _ => 0)))] H := hP
  have hD : va_D A [(a0, .inr (6, [.ref q1, .null, .null, .null, .null, .int 0, .int 0])), (q1, .inr (0, [.ref qa3, .int 0])), (qa3, .inl (cA4, 1200, .inl (fun _ => 0)))] := hD
  refine lv_aload_n hx hb dX6_init_18 rfl (lv_at hl 0 rfl) ?_
  refine va_new (ci := 3) (fs := [.null, .null, .null, .null, .int 0]) (C := RX3) (T := TX3) (N := 5) hx hb hts inAll_3 tyX3 tyX3_ok hown (hts (.classLink RX6 18 RX3) k_61) (hts (.instantiable RX3 5) k_62) (hts (.initialized RX3) k_63) hK hP hD hS hA rfl (fun j hj => by rcases (show j = 0 ∨ j = 1 ∨ j = 2 ∨ j = 3 ∨ j = 4 by omega) with rfl | rfl | rfl | rfl | rfl <;> rfl) (Nat.le_of_ble_eq_true rfl) (Nat.le_of_ble_eq_true rfl) dX6_init_19 (fun q5 H hP hD hS => ?_)
  have hP : va_P (dC, dI) vwCl [(a0, .inr (6, [.ref q1, .null, .null, .null, .null, .int 0, .int 0])), (q1, .inr (0, [.ref qa3, .int 0])), (qa3, .inl (cA4, 1200, .inl (fun _ => 0))), (q5, .inr (3, [.null, .null, .null, .null, .int 0]))] H := hP
  have hD : va_D A [(a0, .inr (6, [.ref q1, .null, .null, .null, .null, .int 0, .int 0])), (q1, .inr (0, [.ref qa3, .int 0])), (qa3, .inl (cA4, 1200, .inl (fun _ => 0))), (q5, .inr (3, [.null, .null, .null, .null, .int 0]))] := hD
  refine W.widen (k := 3) (n := 1207) (Nat.le_of_ble_eq_true rfl) (Nat.le_of_ble_eq_true rfl) ?_
  refine lv_dup hx hb dX6_init_22 rfl ?_
  have hPc := hP.sub (ws' := [(q5, .inr (3, [.null, .null, .null, .null, .int 0]))]) [3] rfl
  have hDc := hD.sub (ws' := [(q5, .inr (3, [.null, .null, .null, .null, .int 0]))]) [3] (by decide) rfl
  have hKc := hK.sub (tys' := []) [] rfl
  have hFc := va_free (wc := [(q5, .inr (3, [.null, .null, .null, .null, .int 0]))]) hD hS hA [3] rfl
  refine va_callv (va_runI (As := []) (rest := [.ref q5, .ref a0]) ⟨hx, hb, hml, hown, hts⟩ (c_X3_init l dC dI H.size q5) (cwI 0 hts gg_i_X3_init rfl rfl rfl (hts (.initialized RX3) k_63) (hts (.methodLink RX6 20 yX3_init) k_65) (hts (.instanceMethod yX3_init) k_66) rfl (by decide +kernel) ⟨Nat.le_of_ble_eq_true rfl, Nat.le_of_ble_eq_true rfl⟩) ⟨fun a U g mk q => by obtain ⟨q0, q1, qP, qK, qD⟩ := q; exact ⟨q0, q1, qP, va_K.moved (u := U) (U := U.calling g mk a) (Vm.Alike.refl U.vm) qK, qD⟩, fun U hU hW => ⟨rfl, by rw [hU], by rw [hU]; exact hPc, va_K.moved hW.alike hKc, hDc.weaken (fun _ _ _ _ => trivial)⟩⟩ rfl rfl hl.1 rfl (lv_room (Nat.le_of_ble_eq_true rfl)) dX6_init_23 ⟨Nat.le_of_ble_eq_true rfl, Nat.le_of_ble_eq_true rfl⟩) hS (fun q _ h => hFc q h) hFc (fun u t H1 locs ht hvm hw hB hz1 hk1 hS => ?_)
  obtain ⟨qb7, qa8, qc9, qd10, qe11, hP1, hK1, hD1⟩ := hB
  rw [ht] at hP1
  have hK1 := va_K.moved hvm.symm hK1
  obtain ⟨hP, hD⟩ := va_join (wr := [(a0, .inr (6, [.ref q1, .null, .null, .null, .null, .int 0, .int 0])), (q1, .inr (0, [.ref qa3, .int 0])), (qa3, .inl (cA4, 1200, .inl (fun _ => 0)))]) (w1 := [(q5, .inr (3, [.ref qb7, .ref qc9, .ref qd10, .ref qe11, .int 0])), (qb7, .inr (0, [.ref qa8, .int 0]))]) hP hD [3] [0, 1, 2] rfl rfl (by decide) (by decide) hk1 hFc hP1 hD1
  have hK := (hK.sub (tys' := [(cA4, .byte)]) [0] rfl).app hK1
  generalize H1 = H at hP hS ⊢
  have hP : va_P (dC, dI) vwCl [(a0, .inr (6, [.ref q1, .null, .null, .null, .null, .int 0, .int 0])), (q1, .inr (0, [.ref qa3, .int 0])), (qa3, .inl (cA4, 1200, .inl (fun _ => 0))), (q5, .inr (3, [.ref qb7, .ref qc9, .ref qd10, .ref qe11, .int 0])), (qb7, .inr (0, [.ref qa8, .int 0]))] H := hP
  have hD : va_D A [(a0, .inr (6, [.ref q1, .null, .null, .null, .null, .int 0, .int 0])), (q1, .inr (0, [.ref qa3, .int 0])), (qa3, .inl (cA4, 1200, .inl (fun _ => 0))), (q5, .inr (3, [.ref qb7, .ref qc9, .ref qd10, .ref qe11, .int 0])), (qb7, .inr (0, [.ref qa8, .int 0]))] := hD
  have hK : va_K (dC, dI) vwCl [(cA4, .byte)] s := hK
  refine W.widen (k := 11) (n := 3858) (Nat.le_of_ble_eq_true rfl) (Nat.le_of_ble_eq_true rfl) ?_
  refine va_putF (D := (dC, dI)) (ci := 6) (v := .ref q5) (ty := .object "LoopEnvelopes$Segments") (C := RX6) (T := TX6) (N := 7) hx hb hts inAll_6 tyX6 tyX6_ok nmX6 hown hK hP hD hS 0 rfl rfl 1 (by decide) (hts (.fieldLink RX6 21 "LoopEnvelopes" "segments" "LLoopEnvelopes$Segments;") k_67) (fun _ h9 => h9) rfl hin rfl (by decide +kernel) rfl rfl (Nat.le_of_ble_eq_true rfl) dX6_init_26 (fun H locs hP hD hS => ?_)
  have hP : va_P (dC, dI) vwCl [(a0, .inr (6, [.ref q1, .ref q5, .null, .null, .null, .int 0, .int 0])), (q1, .inr (0, [.ref qa3, .int 0])), (qa3, .inl (cA4, 1200, .inl (fun _ => 0))), (q5, .inr (3, [.ref qb7, .ref qc9, .ref qd10, .ref qe11, .int 0])), (qb7, .inr (0, [.ref qa8, .int 0]))] H := hP
  have hD : va_D A [(a0, .inr (6, [.ref q1, .ref q5, .null, .null, .null, .int 0, .int 0])), (q1, .inr (0, [.ref qa3, .int 0])), (qa3, .inl (cA4, 1200, .inl (fun _ => 0))), (q5, .inr (3, [.ref qb7, .ref qc9, .ref qd10, .ref qe11, .int 0])), (qb7, .inr (0, [.ref qa8, .int 0]))] := hD
  refine lv_aload_n hx hb dX6_init_29 rfl (lv_at hl 0 rfl) ?_
  refine va_new (ci := 1) (fs := [.null, .null, .null, .int 0, .int 0, .int 0]) (C := RX1) (T := TX1) (N := 6) hx hb hts inAll_1 tyX1 tyX1_ok hown (hts (.classLink RX6 25 RX1) k_68) (hts (.instantiable RX1 6) k_69) (hts (.initialized RX1) k_70) hK hP hD hS hA rfl (fun j hj => by rcases (show j = 0 ∨ j = 1 ∨ j = 2 ∨ j = 3 ∨ j = 4 ∨ j = 5 by omega) with rfl | rfl | rfl | rfl | rfl | rfl <;> rfl) (Nat.le_of_ble_eq_true rfl) (Nat.le_of_ble_eq_true rfl) dX6_init_30 (fun q12 H hP hD hS => ?_)
  have hP : va_P (dC, dI) vwCl [(a0, .inr (6, [.ref q1, .ref q5, .null, .null, .null, .int 0, .int 0])), (q1, .inr (0, [.ref qa3, .int 0])), (qa3, .inl (cA4, 1200, .inl (fun _ => 0))), (q5, .inr (3, [.ref qb7, .ref qc9, .ref qd10, .ref qe11, .int 0])), (qb7, .inr (0, [.ref qa8, .int 0])), (q12, .inr (1, [.null, .null, .null, .int 0, .int 0, .int 0]))] H := hP
  have hD : va_D A [(a0, .inr (6, [.ref q1, .ref q5, .null, .null, .null, .int 0, .int 0])), (q1, .inr (0, [.ref qa3, .int 0])), (qa3, .inl (cA4, 1200, .inl (fun _ => 0))), (q5, .inr (3, [.ref qb7, .ref qc9, .ref qd10, .ref qe11, .int 0])), (qb7, .inr (0, [.ref qa8, .int 0])), (q12, .inr (1, [.null, .null, .null, .int 0, .int 0, .int 0]))] := hD
  refine W.widen (k := 12) (n := 3864) (Nat.le_of_ble_eq_true rfl) (Nat.le_of_ble_eq_true rfl) ?_
  refine lv_dup hx hb dX6_init_33 rfl ?_
  refine lv_aload_n hx hb dX6_init_34 rfl (lv_at hl 0 rfl) ?_
  refine va_get (D := (dC, dI)) (ci := 6) (v := .ref q5) (C := RX6) (T := TX6) (N := 7) hx hb hts inAll_6 hown hK hP 0 rfl rfl 1 (by decide) (hts (.fieldLink RX6 21 "LoopEnvelopes" "segments" "LLoopEnvelopes$Segments;") k_67) (fun _ h9 => h9) rfl dX6_init_35 ?_
  have hPc := hP.sub (ws' := [(q12, .inr (1, [.null, .null, .null, .int 0, .int 0, .int 0]))]) [5] rfl
  have hDc := hD.sub (ws' := [(q12, .inr (1, [.null, .null, .null, .int 0, .int 0, .int 0]))]) [5] (by decide) rfl
  have hKc := hK.sub (tys' := []) [] rfl
  have hFc := va_free (wc := [(q12, .inr (1, [.null, .null, .null, .int 0, .int 0, .int 0]))]) hD hS hA [5] rfl
  refine va_callv (va_runI (As := [.ref q5]) (rest := [.ref q12, .ref a0]) ⟨hx, hb, hml, hown, hts⟩ (c_X1_init l dC dI H.size q12 q5) (cwI 1 hts gg_i_X1_init rfl rfl rfl (hts (.initialized RX1) k_70) (hts (.methodLink RX6 27 yX1_init) k_72) (hts (.instanceMethod yX1_init) k_73) rfl (by decide +kernel) ⟨Nat.le_of_ble_eq_true rfl, Nat.le_of_ble_eq_true rfl⟩) ⟨fun a U g mk q => by obtain ⟨q0, q1, qP, qK, qD⟩ := q; exact ⟨q0, q1, qP, va_K.moved (u := U) (U := U.calling g mk a) (Vm.Alike.refl U.vm) qK, qD⟩, fun U hU hW => ⟨rfl, by rw [hU], by rw [hU]; exact hPc, va_K.moved hW.alike hKc, hDc.weaken (fun _ _ _ _ => trivial)⟩⟩ rfl rfl hl.1 rfl (lv_room (Nat.le_of_ble_eq_true rfl)) dX6_init_38 ⟨Nat.le_of_ble_eq_true rfl, Nat.le_of_ble_eq_true rfl⟩) hS (fun q _ h => hFc q h) hFc (fun u t H1 locs ht hvm hw hB hz1 hk1 hS => ?_)
  obtain ⟨qc14, qd15, hP1, hK1, hD1⟩ := hB
  rw [ht] at hP1
  have hK1 := va_K.moved hvm.symm hK1
  obtain ⟨hP, hD⟩ := va_join (wr := [(a0, .inr (6, [.ref q1, .ref q5, .null, .null, .null, .int 0, .int 0])), (q1, .inr (0, [.ref qa3, .int 0])), (qa3, .inl (cA4, 1200, .inl (fun _ => 0))), (q5, .inr (3, [.ref qb7, .ref qc9, .ref qd10, .ref qe11, .int 0])), (qb7, .inr (0, [.ref qa8, .int 0]))]) (w1 := [(q12, .inr (1, [.ref q5, .ref qc14, .ref qd15, .int 0, .int 0, .int 0]))]) hP hD [5] [0, 1, 2, 3, 4] rfl rfl (by decide) (by decide) hk1 hFc hP1 hD1
  have hK := (hK.sub (tys' := [(cA4, .byte)]) [0] rfl).app hK1
  generalize H1 = H at hP hS ⊢
  have hP : va_P (dC, dI) vwCl [(a0, .inr (6, [.ref q1, .ref q5, .null, .null, .null, .int 0, .int 0])), (q1, .inr (0, [.ref qa3, .int 0])), (qa3, .inl (cA4, 1200, .inl (fun _ => 0))), (q5, .inr (3, [.ref qb7, .ref qc9, .ref qd10, .ref qe11, .int 0])), (qb7, .inr (0, [.ref qa8, .int 0])), (q12, .inr (1, [.ref q5, .ref qc14, .ref qd15, .int 0, .int 0, .int 0]))] H := hP
  have hD : va_D A [(a0, .inr (6, [.ref q1, .ref q5, .null, .null, .null, .int 0, .int 0])), (q1, .inr (0, [.ref qa3, .int 0])), (qa3, .inl (cA4, 1200, .inl (fun _ => 0))), (q5, .inr (3, [.ref qb7, .ref qc9, .ref qd10, .ref qe11, .int 0])), (qb7, .inr (0, [.ref qa8, .int 0])), (q12, .inr (1, [.ref q5, .ref qc14, .ref qd15, .int 0, .int 0, .int 0]))] := hD
  have hK : va_K (dC, dI) vwCl [(cA4, .byte)] s := hK
  refine W.widen (k := 16) (n := 4338) (Nat.le_of_ble_eq_true rfl) (Nat.le_of_ble_eq_true rfl) ?_
  refine va_putF (D := (dC, dI)) (ci := 6) (v := .ref q12) (ty := .object "LoopEnvelopes$Frames") (C := RX6) (T := TX6) (N := 7) hx hb hts inAll_6 tyX6 tyX6_ok nmX6 hown hK hP hD hS 0 rfl rfl 2 (by decide) (hts (.fieldLink RX6 30 "LoopEnvelopes" "frames" "LLoopEnvelopes$Frames;") k_74) (fun _ h9 => h9) rfl hin rfl (by decide +kernel) rfl rfl (Nat.le_of_ble_eq_true rfl) dX6_init_41 (fun H locs hP hD hS => ?_)
  have hP : va_P (dC, dI) vwCl [(a0, .inr (6, [.ref q1, .ref q5, .ref q12, .null, .null, .int 0, .int 0])), (q1, .inr (0, [.ref qa3, .int 0])), (qa3, .inl (cA4, 1200, .inl (fun _ => 0))), (q5, .inr (3, [.ref qb7, .ref qc9, .ref qd10, .ref qe11, .int 0])), (qb7, .inr (0, [.ref qa8, .int 0])), (q12, .inr (1, [.ref q5, .ref qc14, .ref qd15, .int 0, .int 0, .int 0]))] H := hP
  have hD : va_D A [(a0, .inr (6, [.ref q1, .ref q5, .ref q12, .null, .null, .int 0, .int 0])), (q1, .inr (0, [.ref qa3, .int 0])), (qa3, .inl (cA4, 1200, .inl (fun _ => 0))), (q5, .inr (3, [.ref qb7, .ref qc9, .ref qd10, .ref qe11, .int 0])), (qb7, .inr (0, [.ref qa8, .int 0])), (q12, .inr (1, [.ref q5, .ref qc14, .ref qd15, .int 0, .int 0, .int 0]))] := hD
  refine lv_aload_n hx hb dX6_init_44 rfl (lv_at hl 0 rfl) ?_
  refine va_new (ci := 2) (fs := [.null, .null, .null, .int 0, .int 0]) (C := RX2) (T := TX2) (N := 5) hx hb hts inAll_2 tyX2 tyX2_ok hown (hts (.classLink RX6 34 RX2) k_75) (hts (.instantiable RX2 5) k_76) (hts (.initialized RX2) k_77) hK hP hD hS hA rfl (fun j hj => by rcases (show j = 0 ∨ j = 1 ∨ j = 2 ∨ j = 3 ∨ j = 4 by omega) with rfl | rfl | rfl | rfl | rfl <;> rfl) (Nat.le_of_ble_eq_true rfl) (Nat.le_of_ble_eq_true rfl) dX6_init_45 (fun q16 H hP hD hS => ?_)
  have hP : va_P (dC, dI) vwCl [(a0, .inr (6, [.ref q1, .ref q5, .ref q12, .null, .null, .int 0, .int 0])), (q1, .inr (0, [.ref qa3, .int 0])), (qa3, .inl (cA4, 1200, .inl (fun _ => 0))), (q5, .inr (3, [.ref qb7, .ref qc9, .ref qd10, .ref qe11, .int 0])), (qb7, .inr (0, [.ref qa8, .int 0])), (q12, .inr (1, [.ref q5, .ref qc14, .ref qd15, .int 0, .int 0, .int 0])), (q16, .inr (2, [.null, .null, .null, .int 0, .int 0]))] H := hP
  have hD : va_D A [(a0, .inr (6, [.ref q1, .ref q5, .ref q12, .null, .null, .int 0, .int 0])), (q1, .inr (0, [.ref qa3, .int 0])), (qa3, .inl (cA4, 1200, .inl (fun _ => 0))), (q5, .inr (3, [.ref qb7, .ref qc9, .ref qd10, .ref qe11, .int 0])), (qb7, .inr (0, [.ref qa8, .int 0])), (q12, .inr (1, [.ref q5, .ref qc14, .ref qd15, .int 0, .int 0, .int 0])), (q16, .inr (2, [.null, .null, .null, .int 0, .int 0]))] := hD
  refine W.widen (k := 17) (n := 4343) (Nat.le_of_ble_eq_true rfl) (Nat.le_of_ble_eq_true rfl) ?_
  refine lv_dup hx hb dX6_init_48 rfl ?_
  refine lv_aload_n hx hb dX6_init_49 rfl (lv_at hl 0 rfl) ?_
  refine va_get (D := (dC, dI)) (ci := 6) (v := .ref q5) (C := RX6) (T := TX6) (N := 7) hx hb hts inAll_6 hown hK hP 0 rfl rfl 1 (by decide) (hts (.fieldLink RX6 21 "LoopEnvelopes" "segments" "LLoopEnvelopes$Segments;") k_67) (fun _ h9 => h9) rfl dX6_init_50 ?_
  refine lv_aload_n hx hb dX6_init_53 rfl (lv_at hl 0 rfl) ?_
  refine va_get (D := (dC, dI)) (ci := 6) (v := .ref q12) (C := RX6) (T := TX6) (N := 7) hx hb hts inAll_6 hown hK hP 0 rfl rfl 2 (by decide) (hts (.fieldLink RX6 30 "LoopEnvelopes" "frames" "LLoopEnvelopes$Frames;") k_74) (fun _ h9 => h9) rfl dX6_init_54 ?_
  have hPc := hP.sub (ws' := [(q16, .inr (2, [.null, .null, .null, .int 0, .int 0]))]) [6] rfl
  have hDc := hD.sub (ws' := [(q16, .inr (2, [.null, .null, .null, .int 0, .int 0]))]) [6] (by decide) rfl
  have hKc := hK.sub (tys' := []) [] rfl
  have hFc := va_free (wc := [(q16, .inr (2, [.null, .null, .null, .int 0, .int 0]))]) hD hS hA [6] rfl
  refine va_callv (va_runI (As := [.ref q5, .ref q12]) (rest := [.ref q16, .ref a0]) ⟨hx, hb, hml, hown, hts⟩ (c_X2_init l dC dI H.size q16 q5 q12) (cwI 2 hts gg_i_X2_init rfl rfl rfl (hts (.initialized RX2) k_77) (hts (.methodLink RX6 36 yX2_init) k_79) (hts (.instanceMethod yX2_init) k_80) rfl (by decide +kernel) ⟨Nat.le_of_ble_eq_true rfl, Nat.le_of_ble_eq_true rfl⟩) ⟨fun a U g mk q => by obtain ⟨q0, q1, qP, qK, qD⟩ := q; exact ⟨q0, q1, qP, va_K.moved (u := U) (U := U.calling g mk a) (Vm.Alike.refl U.vm) qK, qD⟩, fun U hU hW => ⟨rfl, by rw [hU], by rw [hU]; exact hPc, va_K.moved hW.alike hKc, hDc.weaken (fun _ _ _ _ => trivial)⟩⟩ rfl rfl hl.1 rfl (lv_room (Nat.le_of_ble_eq_true rfl)) dX6_init_57 ⟨Nat.le_of_ble_eq_true rfl, Nat.le_of_ble_eq_true rfl⟩) hS (fun q _ h => hFc q h) hFc (fun u t H1 locs ht hvm hw hB hz1 hk1 hS => ?_)
  obtain ⟨hP1, hK1, hD1⟩ := hB
  rw [ht] at hP1
  have hK1 := va_K.moved hvm.symm hK1
  obtain ⟨hP, hD⟩ := va_join (wr := [(a0, .inr (6, [.ref q1, .ref q5, .ref q12, .null, .null, .int 0, .int 0])), (q1, .inr (0, [.ref qa3, .int 0])), (qa3, .inl (cA4, 1200, .inl (fun _ => 0))), (q5, .inr (3, [.ref qb7, .ref qc9, .ref qd10, .ref qe11, .int 0])), (qb7, .inr (0, [.ref qa8, .int 0])), (q12, .inr (1, [.ref q5, .ref qc14, .ref qd15, .int 0, .int 0, .int 0]))]) (w1 := []) hP hD [6] [0, 1, 2, 3, 4, 5] rfl rfl (by decide) (by decide) hk1 hFc hP1 hD1
  have hK := (hK.sub (tys' := [(cA4, .byte)]) [0] rfl).app hK1
  generalize H1 = H at hP hS ⊢
  have hP : va_P (dC, dI) vwCl [(a0, .inr (6, [.ref q1, .ref q5, .ref q12, .null, .null, .int 0, .int 0])), (q1, .inr (0, [.ref qa3, .int 0])), (qa3, .inl (cA4, 1200, .inl (fun _ => 0))), (q5, .inr (3, [.ref qb7, .ref qc9, .ref qd10, .ref qe11, .int 0])), (qb7, .inr (0, [.ref qa8, .int 0])), (q12, .inr (1, [.ref q5, .ref qc14, .ref qd15, .int 0, .int 0, .int 0]))] H := hP
  have hD : va_D A [(a0, .inr (6, [.ref q1, .ref q5, .ref q12, .null, .null, .int 0, .int 0])), (q1, .inr (0, [.ref qa3, .int 0])), (qa3, .inl (cA4, 1200, .inl (fun _ => 0))), (q5, .inr (3, [.ref qb7, .ref qc9, .ref qd10, .ref qe11, .int 0])), (qb7, .inr (0, [.ref qa8, .int 0])), (q12, .inr (1, [.ref q5, .ref qc14, .ref qd15, .int 0, .int 0, .int 0]))] := hD
  have hK : va_K (dC, dI) vwCl [(cA4, .byte)] s := hK
  refine W.widen (k := 19) (n := 4826) (Nat.le_of_ble_eq_true rfl) (Nat.le_of_ble_eq_true rfl) ?_
  refine va_putF (D := (dC, dI)) (ci := 6) (v := .ref q16) (ty := .object "LoopEnvelopes$Judge") (C := RX6) (T := TX6) (N := 7) hx hb hts inAll_6 tyX6 tyX6_ok nmX6 hown hK hP hD hS 0 rfl rfl 3 (by decide) (hts (.fieldLink RX6 39 "LoopEnvelopes" "judge" "LLoopEnvelopes$Judge;") k_81) (fun _ h9 => h9) rfl hin rfl (by decide +kernel) rfl rfl (Nat.le_of_ble_eq_true rfl) dX6_init_60 (fun H locs hP hD hS => ?_)
  have hP : va_P (dC, dI) vwCl [(a0, .inr (6, [.ref q1, .ref q5, .ref q12, .ref q16, .null, .int 0, .int 0])), (q1, .inr (0, [.ref qa3, .int 0])), (qa3, .inl (cA4, 1200, .inl (fun _ => 0))), (q5, .inr (3, [.ref qb7, .ref qc9, .ref qd10, .ref qe11, .int 0])), (qb7, .inr (0, [.ref qa8, .int 0])), (q12, .inr (1, [.ref q5, .ref qc14, .ref qd15, .int 0, .int 0, .int 0]))] H := hP
  have hD : va_D A [(a0, .inr (6, [.ref q1, .ref q5, .ref q12, .ref q16, .null, .int 0, .int 0])), (q1, .inr (0, [.ref qa3, .int 0])), (qa3, .inl (cA4, 1200, .inl (fun _ => 0))), (q5, .inr (3, [.ref qb7, .ref qc9, .ref qd10, .ref qe11, .int 0])), (qb7, .inr (0, [.ref qa8, .int 0])), (q12, .inr (1, [.ref q5, .ref qc14, .ref qd15, .int 0, .int 0, .int 0]))] := hD
  refine lv_aload_n hx hb dX6_init_63 rfl (lv_at hl 0 rfl) ?_
  refine va_new (ci := 5) (fs := [.null, .null, .int 0]) (C := RX5) (T := TX5) (N := 3) hx hb hts inAll_5 tyX5 tyX5_ok hown (hts (.classLink RX6 43 RX5) k_82) (hts (.instantiable RX5 3) k_83) (hts (.initialized RX5) k_84) hK hP hD hS hA rfl (fun j hj => by rcases (show j = 0 ∨ j = 1 ∨ j = 2 by omega) with rfl | rfl | rfl <;> rfl) (Nat.le_of_ble_eq_true rfl) (Nat.le_of_ble_eq_true rfl) dX6_init_64 (fun q18 H hP hD hS => ?_)
  have hP : va_P (dC, dI) vwCl [(a0, .inr (6, [.ref q1, .ref q5, .ref q12, .ref q16, .null, .int 0, .int 0])), (q1, .inr (0, [.ref qa3, .int 0])), (qa3, .inl (cA4, 1200, .inl (fun _ => 0))), (q5, .inr (3, [.ref qb7, .ref qc9, .ref qd10, .ref qe11, .int 0])), (qb7, .inr (0, [.ref qa8, .int 0])), (q12, .inr (1, [.ref q5, .ref qc14, .ref qd15, .int 0, .int 0, .int 0])), (q18, .inr (5, [.null, .null, .int 0]))] H := hP
  have hD : va_D A [(a0, .inr (6, [.ref q1, .ref q5, .ref q12, .ref q16, .null, .int 0, .int 0])), (q1, .inr (0, [.ref qa3, .int 0])), (qa3, .inl (cA4, 1200, .inl (fun _ => 0))), (q5, .inr (3, [.ref qb7, .ref qc9, .ref qd10, .ref qe11, .int 0])), (qb7, .inr (0, [.ref qa8, .int 0])), (q12, .inr (1, [.ref q5, .ref qc14, .ref qd15, .int 0, .int 0, .int 0])), (q18, .inr (5, [.null, .null, .int 0]))] := hD
  refine W.widen (k := 20) (n := 4829) (Nat.le_of_ble_eq_true rfl) (Nat.le_of_ble_eq_true rfl) ?_
  refine lv_dup hx hb dX6_init_67 rfl ?_
  refine lv_aload_n hx hb dX6_init_68 rfl (lv_at hl 0 rfl) ?_
  refine va_get (D := (dC, dI)) (ci := 6) (v := .ref q5) (C := RX6) (T := TX6) (N := 7) hx hb hts inAll_6 hown hK hP 0 rfl rfl 1 (by decide) (hts (.fieldLink RX6 21 "LoopEnvelopes" "segments" "LLoopEnvelopes$Segments;") k_67) (fun _ h9 => h9) rfl dX6_init_69 ?_
  have hPc := hP.sub (ws' := [(q18, .inr (5, [.null, .null, .int 0]))]) [6] rfl
  have hDc := hD.sub (ws' := [(q18, .inr (5, [.null, .null, .int 0]))]) [6] (by decide) rfl
  have hKc := hK.sub (tys' := []) [] rfl
  have hFc := va_free (wc := [(q18, .inr (5, [.null, .null, .int 0]))]) hD hS hA [6] rfl
  refine va_callv (va_runI (As := [.ref q5]) (rest := [.ref q18, .ref a0]) ⟨hx, hb, hml, hown, hts⟩ (c_X5_init l dC dI H.size q18 q5) (cwI 1 hts gg_i_X5_init rfl rfl rfl (hts (.initialized RX5) k_84) (hts (.methodLink RX6 45 yX5_init) k_86) (hts (.instanceMethod yX5_init) k_87) rfl (by decide +kernel) ⟨Nat.le_of_ble_eq_true rfl, Nat.le_of_ble_eq_true rfl⟩) ⟨fun a U g mk q => by obtain ⟨q0, q1, qP, qK, qD⟩ := q; exact ⟨q0, q1, qP, va_K.moved (u := U) (U := U.calling g mk a) (Vm.Alike.refl U.vm) qK, qD⟩, fun U hU hW => ⟨rfl, by rw [hU], by rw [hU]; exact hPc, va_K.moved hW.alike hKc, hDc.weaken (fun _ _ _ _ => trivial)⟩⟩ rfl rfl hl.1 rfl (lv_room (Nat.le_of_ble_eq_true rfl)) dX6_init_72 ⟨Nat.le_of_ble_eq_true rfl, Nat.le_of_ble_eq_true rfl⟩) hS (fun q _ h => hFc q h) hFc (fun u t H1 locs ht hvm hw hB hz1 hk1 hS => ?_)
  obtain ⟨qb20, qa21, hP1, hK1, hD1⟩ := hB
  rw [ht] at hP1
  have hK1 := va_K.moved hvm.symm hK1
  obtain ⟨hP, hD⟩ := va_join (wr := [(a0, .inr (6, [.ref q1, .ref q5, .ref q12, .ref q16, .null, .int 0, .int 0])), (q1, .inr (0, [.ref qa3, .int 0])), (qa3, .inl (cA4, 1200, .inl (fun _ => 0))), (q5, .inr (3, [.ref qb7, .ref qc9, .ref qd10, .ref qe11, .int 0])), (qb7, .inr (0, [.ref qa8, .int 0])), (q12, .inr (1, [.ref q5, .ref qc14, .ref qd15, .int 0, .int 0, .int 0]))]) (w1 := [(q18, .inr (5, [.ref q5, .ref qb20, .int 0])), (qb20, .inr (0, [.ref qa21, .int 0]))]) hP hD [6] [0, 1, 2, 3, 4, 5] rfl rfl (by decide) (by decide) hk1 hFc hP1 hD1
  have hK := (hK.sub (tys' := [(cA4, .byte)]) [0] rfl).app hK1
  generalize H1 = H at hP hS ⊢
  have hP : va_P (dC, dI) vwCl [(a0, .inr (6, [.ref q1, .ref q5, .ref q12, .ref q16, .null, .int 0, .int 0])), (q1, .inr (0, [.ref qa3, .int 0])), (qa3, .inl (cA4, 1200, .inl (fun _ => 0))), (q5, .inr (3, [.ref qb7, .ref qc9, .ref qd10, .ref qe11, .int 0])), (qb7, .inr (0, [.ref qa8, .int 0])), (q12, .inr (1, [.ref q5, .ref qc14, .ref qd15, .int 0, .int 0, .int 0])), (q18, .inr (5, [.ref q5, .ref qb20, .int 0])), (qb20, .inr (0, [.ref qa21, .int 0]))] H := hP
  have hD : va_D A [(a0, .inr (6, [.ref q1, .ref q5, .ref q12, .ref q16, .null, .int 0, .int 0])), (q1, .inr (0, [.ref qa3, .int 0])), (qa3, .inl (cA4, 1200, .inl (fun _ => 0))), (q5, .inr (3, [.ref qb7, .ref qc9, .ref qd10, .ref qe11, .int 0])), (qb7, .inr (0, [.ref qa8, .int 0])), (q12, .inr (1, [.ref q5, .ref qc14, .ref qd15, .int 0, .int 0, .int 0])), (q18, .inr (5, [.ref q5, .ref qb20, .int 0])), (qb20, .inr (0, [.ref qa21, .int 0]))] := hD
  have hK : va_K (dC, dI) vwCl [(cA4, .byte)] s := hK
  refine W.widen (k := 22) (n := 6831) (Nat.le_of_ble_eq_true rfl) (Nat.le_of_ble_eq_true rfl) ?_
  refine va_putF (D := (dC, dI)) (ci := 6) (v := .ref q18) (ty := .object "LoopEnvelopes$Writer") (C := RX6) (T := TX6) (N := 7) hx hb hts inAll_6 tyX6 tyX6_ok nmX6 hown hK hP hD hS 0 rfl rfl 4 (by decide) (hts (.fieldLink RX6 46 "LoopEnvelopes" "writer" "LLoopEnvelopes$Writer;") k_88) (fun _ h9 => h9) rfl hin rfl (by decide +kernel) rfl rfl (Nat.le_of_ble_eq_true rfl) dX6_init_75 (fun H locs hP hD hS => ?_)
  have hP : va_P (dC, dI) vwCl [(a0, .inr (6, [.ref q1, .ref q5, .ref q12, .ref q16, .ref q18, .int 0, .int 0])), (q1, .inr (0, [.ref qa3, .int 0])), (qa3, .inl (cA4, 1200, .inl (fun _ => 0))), (q5, .inr (3, [.ref qb7, .ref qc9, .ref qd10, .ref qe11, .int 0])), (qb7, .inr (0, [.ref qa8, .int 0])), (q12, .inr (1, [.ref q5, .ref qc14, .ref qd15, .int 0, .int 0, .int 0])), (q18, .inr (5, [.ref q5, .ref qb20, .int 0])), (qb20, .inr (0, [.ref qa21, .int 0]))] H := hP
  have hD : va_D A [(a0, .inr (6, [.ref q1, .ref q5, .ref q12, .ref q16, .ref q18, .int 0, .int 0])), (q1, .inr (0, [.ref qa3, .int 0])), (qa3, .inl (cA4, 1200, .inl (fun _ => 0))), (q5, .inr (3, [.ref qb7, .ref qc9, .ref qd10, .ref qe11, .int 0])), (qb7, .inr (0, [.ref qa8, .int 0])), (q12, .inr (1, [.ref q5, .ref qc14, .ref qd15, .int 0, .int 0, .int 0])), (q18, .inr (5, [.ref q5, .ref qb20, .int 0])), (qb20, .inr (0, [.ref qa21, .int 0]))] := hD
  refine lv_aload_n hx hb dX6_init_78 rfl (lv_at hl 0 rfl) ?_
  refine lv_iconst (v := (-1)) hx hb dX6_init_79 (by decide) ?_
  refine va_put (D := (dC, dI)) (ci := 6) (v := .int (-1)) (ty := .int) (C := RX6) (T := TX6) (N := 7) hx hb hts inAll_6 tyX6 tyX6_ok nmX6 hown hK hP hD hS 0 rfl rfl 5 (by decide) (hts (.fieldLink RX6 50 "LoopEnvelopes" "place" "I") k_89) (fun _ h9 => h9) rfl (by decide +kernel) rfl rfl (Nat.le_of_ble_eq_true rfl) dX6_init_80 (fun H locs hP hD hS => ?_)
  have hP : va_P (dC, dI) vwCl [(a0, .inr (6, [.ref q1, .ref q5, .ref q12, .ref q16, .ref q18, .int (-1), .int 0])), (q1, .inr (0, [.ref qa3, .int 0])), (qa3, .inl (cA4, 1200, .inl (fun _ => 0))), (q5, .inr (3, [.ref qb7, .ref qc9, .ref qd10, .ref qe11, .int 0])), (qb7, .inr (0, [.ref qa8, .int 0])), (q12, .inr (1, [.ref q5, .ref qc14, .ref qd15, .int 0, .int 0, .int 0])), (q18, .inr (5, [.ref q5, .ref qb20, .int 0])), (qb20, .inr (0, [.ref qa21, .int 0]))] H := hP
  have hD : va_D A [(a0, .inr (6, [.ref q1, .ref q5, .ref q12, .ref q16, .ref q18, .int (-1), .int 0])), (q1, .inr (0, [.ref qa3, .int 0])), (qa3, .inl (cA4, 1200, .inl (fun _ => 0))), (q5, .inr (3, [.ref qb7, .ref qc9, .ref qd10, .ref qe11, .int 0])), (qb7, .inr (0, [.ref qa8, .int 0])), (q12, .inr (1, [.ref q5, .ref qc14, .ref qd15, .int 0, .int 0, .int 0])), (q18, .inr (5, [.ref q5, .ref qb20, .int 0])), (qb20, .inr (0, [.ref qa21, .int 0]))] := hD
  refine lv_aload_n hx hb dX6_init_83 rfl (lv_at hl 0 rfl) ?_
  refine lv_iconst (v := 0) hx hb dX6_init_84 (by decide) ?_
  refine va_put (D := (dC, dI)) (ci := 6) (v := .int 0) (ty := .boolean) (C := RX6) (T := TX6) (N := 7) hx hb hts inAll_6 tyX6 tyX6_ok nmX6 hown hK hP hD hS 0 rfl rfl 6 (by decide) (hts (.fieldLink RX6 54 "LoopEnvelopes" "taken" "Z") k_90) (fun _ h9 => h9) rfl (by decide +kernel) rfl rfl (Nat.le_of_ble_eq_true rfl) dX6_init_85 (fun H locs hP hD hS => ?_)
  have hP : va_P (dC, dI) vwCl [(a0, .inr (6, [.ref q1, .ref q5, .ref q12, .ref q16, .ref q18, .int (-1), .int 0])), (q1, .inr (0, [.ref qa3, .int 0])), (qa3, .inl (cA4, 1200, .inl (fun _ => 0))), (q5, .inr (3, [.ref qb7, .ref qc9, .ref qd10, .ref qe11, .int 0])), (qb7, .inr (0, [.ref qa8, .int 0])), (q12, .inr (1, [.ref q5, .ref qc14, .ref qd15, .int 0, .int 0, .int 0])), (q18, .inr (5, [.ref q5, .ref qb20, .int 0])), (qb20, .inr (0, [.ref qa21, .int 0]))] H := hP
  have hD : va_D A [(a0, .inr (6, [.ref q1, .ref q5, .ref q12, .ref q16, .ref q18, .int (-1), .int 0])), (q1, .inr (0, [.ref qa3, .int 0])), (qa3, .inl (cA4, 1200, .inl (fun _ => 0))), (q5, .inr (3, [.ref qb7, .ref qc9, .ref qd10, .ref qe11, .int 0])), (qb7, .inr (0, [.ref qa8, .int 0])), (q12, .inr (1, [.ref q5, .ref qc14, .ref qd15, .int 0, .int 0, .int 0])), (q18, .inr (5, [.ref q5, .ref qb20, .int 0])), (qb20, .inr (0, [.ref qa21, .int 0]))] := hD
  have hP9 := hP.sub (ws' := [(a0, .inr (6, [.ref q1, .ref q5, .ref q12, .ref q16, .ref q18, .int (-1), .int 0])), (q1, .inr (0, [.ref qa3, .int 0])), (qa3, .inl (cA4, 1200, .inl (fun _ => 0))), (q5, .inr (3, [.ref qb7, .ref qc9, .ref qd10, .ref qe11, .int 0])), (qb7, .inr (0, [.ref qa8, .int 0])), (q12, .inr (1, [.ref q5, .ref qc14, .ref qd15, .int 0, .int 0, .int 0])), (q18, .inr (5, [.ref q5, .ref qb20, .int 0])), (qb20, .inr (0, [.ref qa21, .int 0]))]) [0, 1, 2, 3, 4, 5, 6, 7] rfl
  have hD9 := hD.sub (ws' := [(a0, .inr (6, [.ref q1, .ref q5, .ref q12, .ref q16, .ref q18, .int (-1), .int 0])), (q1, .inr (0, [.ref qa3, .int 0])), (qa3, .inl (cA4, 1200, .inl (fun _ => 0))), (q5, .inr (3, [.ref qb7, .ref qc9, .ref qd10, .ref qe11, .int 0])), (qb7, .inr (0, [.ref qa8, .int 0])), (q12, .inr (1, [.ref q5, .ref qc14, .ref qd15, .int 0, .int 0, .int 0])), (q18, .inr (5, [.ref q5, .ref qb20, .int 0])), (qb20, .inr (0, [.ref qa21, .int 0]))]) [0, 1, 2, 3, 4, 5, 6, 7] (by decide) rfl
  have hK9 := hK.sub (tys' := [(cA4, .byte)]) [0] rfl
  refine W.widen (k := 22) (n := 6831) (Nat.le_of_ble_eq_true rfl) (Nat.le_of_ble_eq_true rfl) ?_
  exact W.vret hx hb hr (fun t ht hW => ⟨⟨(), rfl, trivial, q1, q5, q12, q16, q18, qa3, qb7, qc9, qd10, qe11, qa8, q5, qc14, qd15, q5, qb20, qa21, cA4, (fun _ => 0), by rw [ht]; exact hP9, va_K.moved hW.alike hK9, hD9⟩, hS.F ht⟩) hS.2.2 dX6_init_88
end
section
set_option maxHeartbeats 4000000 in
set_option maxRecDepth 100000 in
/-- length() -/
theorem c_X0_length (l : Launch) (dC : Nat → ClassId) (dI : Nat → Nat → Nat) (sz : Nat) (a0 : Nat) (ya : Nat) (u : Int32) : Met l yX0_length pwX0_length ({ frames := 0, cells := 0, slots := 0, locals := 0 } : Room) (va_Pc [.ref a0] (fun U => U.heap.size = sz ∧ va_P (dC, dI) vwCl [(a0, .inr (0, [.ref ya, .int u]))] U.heap ∧ va_K (dC, dI) vwCl [] U ∧ va_D (fun _ => True) [(a0, .inr (0, [.ref ya, .int u]))])) (va_Qi (fun (r : Int32) (_ : Unit) => r = u) (fun (_ : Unit) (t : State) => va_P (dC, dI) vwCl [(a0, .inr (0, [.ref ya, .int u]))] t.heap ∧ va_K (dC, dI) vwCl [] t ∧ va_D (va_A [(a0, .inr (0, [.ref ya, .int u]))] sz) [(a0, .inr (0, [.ref ya, .int u]))]) (va_A [(a0, .inr (0, [.ref ya, .int u]))] sz)) 0 0 (va_A [(a0, .inr (0, [.ref ya, .int u]))] sz) := by
  refine Met.ofW (cc := cX0_length) (maxL := 1) (ret := (some .int)) (by decide) rfl ?_
  intro p e s m args below meth c s₁ B hml hv
  obtain ⟨rfl, hsz, hP, hK, hD0⟩ := hv
  have hx := B.exec
  have hb := B.bytes
  have hr := B.returns
  have hts0 := atoms_spec (ws := pwX0_length) B.pre
  have hts := fun w (h : w ∈ pwAll) => hts0 w (List.mem_cons_of_mem _ h)
  have hown : s.vm.findClass RX0 = some m.cls := findClass_of_methodNamed B.named
  have hlocks := B.notSynchronized
  subst hsz
  have hD := hD0.self (sz := s.heap.size)
  generalize hAe : va_A [(a0, .inr (0, [.ref ya, .int u]))] s.heap.size = A at hD ⊢
  have hA : ∀ q : Nat, s.heap.size ≤ q → A q := fun q h => by rw [← hAe]; exact Or.inr h
  have hS : va_S A s.heap s.heap [] := va_S.rf
  have hP : va_P (dC, dI) vwCl [(a0, .inr (0, [.ref ya, .int u]))] s.heap := hP
  have hl := lv_entry ([.ref a0]) (n := 1) (Nat.le_of_ble_eq_true rfl)
  rw [lg_entry_eq]
  generalize (lg_sl ([.ref a0]) ++ List.replicate (1 - (lg_sl ([.ref a0])).length) Slot.unset).toArray = ls at hl ⊢
  have hl : lv_has ls 1 [(0, .ref a0)] := hl
  refine lv_aload_n hx hb dX0_length_0 rfl (lv_at hl 0 rfl) ?_
  refine va_get (D := (dC, dI)) (ci := 0) (v := .int u) (C := RX0) (T := TX0) (N := 2) hx hb hts inAll_0 hown hK hP 0 rfl rfl 1 (by decide) (hts (.fieldLink RX0 21 "LoopEnvelopes$Bytes" "used" "I") k_9) (fun _ h9 => h9) rfl dX0_length_1 ?_
  have hP9 := hP.sub (ws' := [(a0, .inr (0, [.ref ya, .int u]))]) [0] rfl
  have hD9 := hD.sub (ws' := [(a0, .inr (0, [.ref ya, .int u]))]) [0] (by decide) rfl
  have hK9 := hK.sub (tys' := []) [] rfl
  exact W.iret (v := u) hx hb hr (fun t ht hW => ⟨⟨u, (), rfl, rfl, by rw [ht]; exact hP9, va_K.moved hW.alike hK9, hD9⟩, hS.F ht⟩) hS.2.2 dX0_length_4

set_option maxHeartbeats 4000000 in
set_option maxRecDepth 100000 in
/-- at(i) of none -/
theorem c_X0_at0 (l : Launch) (dC : Nat → ClassId) (dI : Nat → Nat → Nat) (sz : Nat) (a0 : Nat) (ya : Nat) (ix : Int32) : Met l yX0_at pwX0_at ({ frames := 0, cells := 0, slots := 0, locals := 0 } : Room) (va_Pc [.ref a0, .int ix] (fun U => U.heap.size = sz ∧ va_P (dC, dI) vwCl [(a0, .inr (0, [.ref ya, .int 0]))] U.heap ∧ va_K (dC, dI) vwCl [] U ∧ va_D (fun _ => True) [(a0, .inr (0, [.ref ya, .int 0]))])) (va_Qi (fun (r : Int32) (_ : Unit) => r = (-1)) (fun (_ : Unit) (t : State) => va_P (dC, dI) vwCl [(a0, .inr (0, [.ref ya, .int 0]))] t.heap ∧ va_K (dC, dI) vwCl [] t ∧ va_D (va_A [(a0, .inr (0, [.ref ya, .int 0]))] sz) [(a0, .inr (0, [.ref ya, .int 0]))]) (va_A [(a0, .inr (0, [.ref ya, .int 0]))] sz)) 0 0 (va_A [(a0, .inr (0, [.ref ya, .int 0]))] sz) := by
  refine Met.ofW (cc := cX0_at) (maxL := 2) (ret := (some .int)) (by decide) rfl ?_
  intro p e s m args below meth c s₁ B hml hv
  obtain ⟨rfl, hsz, hP, hK, hD0⟩ := hv
  have hx := B.exec
  have hb := B.bytes
  have hr := B.returns
  have hts0 := atoms_spec (ws := pwX0_at) B.pre
  have hts := fun w (h : w ∈ pwAll) => hts0 w (List.mem_cons_of_mem _ h)
  have hown : s.vm.findClass RX0 = some m.cls := findClass_of_methodNamed B.named
  have hlocks := B.notSynchronized
  subst hsz
  have hD := hD0.self (sz := s.heap.size)
  generalize hAe : va_A [(a0, .inr (0, [.ref ya, .int 0]))] s.heap.size = A at hD ⊢
  have hA : ∀ q : Nat, s.heap.size ≤ q → A q := fun q h => by rw [← hAe]; exact Or.inr h
  have hS : va_S A s.heap s.heap [] := va_S.rf
  have hP : va_P (dC, dI) vwCl [(a0, .inr (0, [.ref ya, .int 0]))] s.heap := hP
  have hl := lv_entry ([.ref a0, .int ix]) (n := 2) (Nat.le_of_ble_eq_true rfl)
  rw [lg_entry_eq]
  generalize (lg_sl ([.ref a0, .int ix]) ++ List.replicate (2 - (lg_sl ([.ref a0, .int ix])).length) Slot.unset).toArray = ls at hl ⊢
  have hl : lv_has ls 2 [(0, .ref a0), (1, .int ix)] := hl
  refine lv_iload_n hx hb dX0_at_0 rfl (lv_at hl 1 rfl) ?_
  refine lv_if_lt (tgt := 21) hx hb dX0_at_1 (by decide) (fun c_1 => ?_) (fun c_1 => ?_)
  · skip
    refine lv_iconst (v := (-1)) hx hb dX0_at_21 (by decide) ?_
    refine lv_goto (tgt := 35) hx hb dX0_at_22 (by decide) ?_
    have hP9 := hP.sub (ws' := [(a0, .inr (0, [.ref ya, .int 0]))]) [0] rfl
    have hD9 := hD.sub (ws' := [(a0, .inr (0, [.ref ya, .int 0]))]) [0] (by decide) rfl
    have hK9 := hK.sub (tys' := []) [] rfl
    exact W.iret (v := (-1)) hx hb hr (fun t ht hW => ⟨⟨(-1), (), rfl, rfl, by rw [ht]; exact hP9, va_K.moved hW.alike hK9, hD9⟩, hS.F ht⟩) hS.2.2 dX0_at_35
  · skip
    refine lv_iload_n hx hb dX0_at_4 rfl (lv_at hl 1 rfl) ?_
    refine lv_aload_n hx hb dX0_at_5 rfl (lv_at hl 0 rfl) ?_
    refine va_get (D := (dC, dI)) (ci := 0) (v := .int 0) (C := RX0) (T := TX0) (N := 2) hx hb hts inAll_0 hown hK hP 0 rfl rfl 1 (by decide) (hts (.fieldLink RX0 21 "LoopEnvelopes$Bytes" "used" "I") k_9) (fun _ h9 => h9) rfl dX0_at_6 ?_
    refine lv_icmp_ge (tgt := 21) hx hb dX0_at_9 (by decide) (fun c_9 => ?_) (fun c_9 => absurd (Int32.not_lt.mp c_1) c_9)
    refine lv_iconst (v := (-1)) hx hb dX0_at_21 (by decide) ?_
    refine lv_goto (tgt := 35) hx hb dX0_at_22 (by decide) ?_
    have hP9 := hP.sub (ws' := [(a0, .inr (0, [.ref ya, .int 0]))]) [0] rfl
    have hD9 := hD.sub (ws' := [(a0, .inr (0, [.ref ya, .int 0]))]) [0] (by decide) rfl
    have hK9 := hK.sub (tys' := []) [] rfl
    exact W.iret (v := (-1)) hx hb hr (fun t ht hW => ⟨⟨(-1), (), rfl, rfl, by rw [ht]; exact hP9, va_K.moved hW.alike hK9, hD9⟩, hS.F ht⟩) hS.2.2 dX0_at_35

set_option maxHeartbeats 4000000 in
set_option maxRecDepth 100000 in
/-- append(b), where there is room -/
theorem c_X0_append (l : Launch) (dC : Nat → ClassId) (dI : Nat → Nat → Nat) (sz : Nat) (a0 : Nat) (ya : Nat) (cA : ClassId) (f0 : (Nat → Int32)) (j : Nat) (bb : Int32) (g1 : j < 1200) : Met l yX0_append pwX0_append ({ frames := 0, cells := 0, slots := 0, locals := 0 } : Room) (va_Pc [.ref a0, .int bb] (fun U => U.heap.size = sz ∧ va_P (dC, dI) vwCl [(a0, .inr (0, [.ref ya, .int (nI j)])), (ya, .inl (cA, 1200, .inl f0))] U.heap ∧ va_K (dC, dI) vwCl [(cA, .byte)] U ∧ va_D (fun _ => True) [(a0, .inr (0, [.ref ya, .int (nI j)])), (ya, .inl (cA, 1200, .inl f0))])) (va_Qi (fun (r : Int32) (_ : Unit) => r = 1) (fun (_ : Unit) (t : State) => ∃ (fz : Nat → Int32), va_P (dC, dI) vwCl [(a0, .inr (0, [.ref ya, .int (nI (j + 1))])), (ya, .inl (cA, 1200, .inl fz))] t.heap ∧ va_K (dC, dI) vwCl [(cA, .byte)] t ∧ va_D (va_A [(a0, .inr (0, [.ref ya, .int (nI j)])), (ya, .inl (cA, 1200, .inl f0))] sz) [(a0, .inr (0, [.ref ya, .int (nI (j + 1))])), (ya, .inl (cA, 1200, .inl fz))]) (va_A [(a0, .inr (0, [.ref ya, .int (nI j)])), (ya, .inl (cA, 1200, .inl f0))] sz)) 0 0 (va_A [(a0, .inr (0, [.ref ya, .int (nI j)])), (ya, .inl (cA, 1200, .inl f0))] sz) := by
  refine Met.ofW (cc := cX0_append) (maxL := 2) (ret := (some .boolean)) (by decide) rfl ?_
  intro p e s m args below meth c s₁ B hml hv
  obtain ⟨rfl, hsz, hP, hK, hD0⟩ := hv
  have hx := B.exec
  have hb := B.bytes
  have hr := B.returns
  have hts0 := atoms_spec (ws := pwX0_append) B.pre
  have hts := fun w (h : w ∈ pwAll) => hts0 w (List.mem_cons_of_mem _ h)
  have hown : s.vm.findClass RX0 = some m.cls := findClass_of_methodNamed B.named
  have hlocks := B.notSynchronized
  subst hsz
  have hD := hD0.self (sz := s.heap.size)
  generalize hAe : va_A [(a0, .inr (0, [.ref ya, .int (nI j)])), (ya, .inl (cA, 1200, .inl f0))] s.heap.size = A at hD ⊢
  have hA : ∀ q : Nat, s.heap.size ≤ q → A q := fun q h => by rw [← hAe]; exact Or.inr h
  have hS : va_S A s.heap s.heap [] := va_S.rf
  have hP : va_P (dC, dI) vwCl [(a0, .inr (0, [.ref ya, .int (nI j)])), (ya, .inl (cA, 1200, .inl f0))] s.heap := hP
  have hl := lv_entry ([.ref a0, .int bb]) (n := 2) (Nat.le_of_ble_eq_true rfl)
  rw [lg_entry_eq]
  generalize (lg_sl ([.ref a0, .int bb]) ++ List.replicate (2 - (lg_sl ([.ref a0, .int bb])).length) Slot.unset).toArray = ls at hl ⊢
  have hl : lv_has ls 2 [(0, .ref a0), (1, .int bb)] := hl
  refine lv_aload_n hx hb dX0_append_0 rfl (lv_at hl 0 rfl) ?_
  refine va_get (D := (dC, dI)) (ci := 0) (v := .int (nI j)) (C := RX0) (T := TX0) (N := 2) hx hb hts inAll_0 hown hK hP 0 rfl rfl 1 (by decide) (hts (.fieldLink RX0 21 "LoopEnvelopes$Bytes" "used" "I") k_9) (fun _ h9 => h9) rfl dX0_append_1 ?_
  refine lv_if_lt (tgt := 19) hx hb dX0_append_4 (by decide) (fun c_4 => absurd c_4 (nI_pos (by omega))) (fun c_4 => ?_)
  refine lv_aload_n hx hb dX0_append_7 rfl (lv_at hl 0 rfl) ?_
  refine va_get (D := (dC, dI)) (ci := 0) (v := .int (nI j)) (C := RX0) (T := TX0) (N := 2) hx hb hts inAll_0 hown hK hP 0 rfl rfl 1 (by decide) (hts (.fieldLink RX0 21 "LoopEnvelopes$Bytes" "used" "I") k_9) (fun _ h9 => h9) rfl dX0_append_8 ?_
  refine lv_aload_n hx hb dX0_append_11 rfl (lv_at hl 0 rfl) ?_
  refine va_get (D := (dC, dI)) (ci := 0) (v := .ref ya) (C := RX0) (T := TX0) (N := 2) hx hb hts inAll_0 hown hK hP 0 rfl rfl 0 (by decide) (hts (.fieldLink RX0 15 "LoopEnvelopes$Bytes" "cells" "[B") k_8) (fun _ h9 => h9) rfl dX0_append_12 ?_
  refine va_alen hx hb hK hP 1 0 rfl rfl (v := nI 1200) rfl dX0_append_15 ?_
  refine lv_icmp_lt (tgt := 21) hx hb dX0_append_16 (by decide) (fun c_16 => ?_) (fun c_16 => absurd (nI_lt g1 (by decide)) c_16)
  refine lv_aload_n hx hb dX0_append_21 rfl (lv_at hl 0 rfl) ?_
  refine va_get (D := (dC, dI)) (ci := 0) (v := .ref ya) (C := RX0) (T := TX0) (N := 2) hx hb hts inAll_0 hown hK hP 0 rfl rfl 0 (by decide) (hts (.fieldLink RX0 15 "LoopEnvelopes$Bytes" "cells" "[B") k_8) (fun _ h9 => h9) rfl dX0_append_22 ?_
  refine lv_aload_n hx hb dX0_append_25 rfl (lv_at hl 0 rfl) ?_
  refine va_get (D := (dC, dI)) (ci := 0) (v := .int (nI j)) (C := RX0) (T := TX0) (N := 2) hx hb hts inAll_0 hown hK hP 0 rfl rfl 1 (by decide) (hts (.fieldLink RX0 21 "LoopEnvelopes$Bytes" "used" "I") k_9) (fun _ h9 => h9) rfl dX0_append_26 ?_
  refine lv_iload_n hx hb dX0_append_29 rfl (lv_at hl 1 rfl) ?_
  refine lv_i2b hx hb dX0_append_30 rfl ?_
  refine lv_topi (fun b1 eb1 => ?_)
  refine va_bast hx hb hK hP hD hS 1 0 rfl rfl (vp_in_nI g1 (by decide)) dX0_append_31 (fun H locs hP hD hS => ?_)
  have hP : va_P (dC, dI) vwCl [(a0, .inr (0, [.ref ya, .int (nI j)])), (ya, .inl (cA, 1200, .inl (upd f0 (nI j).toNatClampNeg (vp_nar .byte b1))))] H := hP
  have hD : va_D A [(a0, .inr (0, [.ref ya, .int (nI j)])), (ya, .inl (cA, 1200, .inl (upd f0 (nI j).toNatClampNeg (vp_nar .byte b1))))] := hD
  refine lv_aload_n hx hb dX0_append_32 rfl (lv_at hl 0 rfl) ?_
  refine lv_dup hx hb dX0_append_33 rfl ?_
  refine va_get (D := (dC, dI)) (ci := 0) (v := .int (nI j)) (C := RX0) (T := TX0) (N := 2) hx hb hts inAll_0 hown hK hP 0 rfl rfl 1 (by decide) (hts (.fieldLink RX0 21 "LoopEnvelopes$Bytes" "used" "I") k_9) (fun _ h9 => h9) rfl dX0_append_34 ?_
  refine lv_iconst (v := 1) hx hb dX0_append_37 (by decide) ?_
  refine lv_iadd hx hb dX0_append_38 ?_
  refine pf_top (y := (nI (j + 1))) (nI_1 j) ?_
  refine va_put (D := (dC, dI)) (ci := 0) (v := .int (nI (j + 1))) (ty := .int) (C := RX0) (T := TX0) (N := 2) hx hb hts inAll_0 tyX0 tyX0_ok nmX0 hown hK hP hD hS 0 rfl rfl 1 (by decide) (hts (.fieldLink RX0 21 "LoopEnvelopes$Bytes" "used" "I") k_9) (fun _ h9 => h9) rfl (by decide +kernel) rfl rfl (Nat.le_of_ble_eq_true rfl) dX0_append_39 (fun H locs hP hD hS => ?_)
  have hP : va_P (dC, dI) vwCl [(a0, .inr (0, [.ref ya, .int (nI (j + 1))])), (ya, .inl (cA, 1200, .inl (upd f0 (nI j).toNatClampNeg (vp_nar .byte b1))))] H := hP
  have hD : va_D A [(a0, .inr (0, [.ref ya, .int (nI (j + 1))])), (ya, .inl (cA, 1200, .inl (upd f0 (nI j).toNatClampNeg (vp_nar .byte b1))))] := hD
  refine lv_iconst (v := 1) hx hb dX0_append_42 (by decide) ?_
  have hP9 := hP.sub (ws' := [(a0, .inr (0, [.ref ya, .int (nI (j + 1))])), (ya, .inl (cA, 1200, .inl (upd f0 (nI j).toNatClampNeg (vp_nar .byte b1))))]) [0, 1] rfl
  have hD9 := hD.sub (ws' := [(a0, .inr (0, [.ref ya, .int (nI (j + 1))])), (ya, .inl (cA, 1200, .inl (upd f0 (nI j).toNatClampNeg (vp_nar .byte b1))))]) [0, 1] (by decide) rfl
  have hK9 := hK.sub (tys' := [(cA, .byte)]) [0] rfl
  exact W.zret (v := 1) hx hb hr rfl (fun t ht hW => ⟨⟨1, (), rfl, rfl, (upd f0 (nI j).toNatClampNeg (vp_nar .byte b1)), by rw [ht]; exact hP9, va_K.moved hW.alike hK9, hD9⟩, hS.F ht⟩) hS.2.2 dX0_append_43

set_option maxHeartbeats 4000000 in
set_option maxRecDepth 100000 in
/-- shorten(n) of none -/
theorem c_X0_shorten (l : Launch) (dC : Nat → ClassId) (dI : Nat → Nat → Nat) (sz : Nat) (a0 : Nat) (ya : Nat) (k0 : Int32) (g1 : k0 ≤ 0) : Met l yX0_shorten pwX0_shorten ({ frames := 1, cells := 0, slots := 0, locals := 20 } : Room) (va_Pc [.ref a0, .int k0] (fun U => U.heap.size = sz ∧ va_P (dC, dI) vwCl [(a0, .inr (0, [.ref ya, .int 0]))] U.heap ∧ va_K (dC, dI) vwCl [] U ∧ va_D (fun _ => True) [(a0, .inr (0, [.ref ya, .int 0]))])) (va_Qv (fun _ : Unit => True) (fun (_ : Unit) (t : State) => va_P (dC, dI) vwCl [(a0, .inr (0, [.ref ya, .int 0]))] t.heap ∧ va_K (dC, dI) vwCl [] t ∧ va_D (va_A [(a0, .inr (0, [.ref ya, .int 0]))] sz) [(a0, .inr (0, [.ref ya, .int 0]))]) (va_A [(a0, .inr (0, [.ref ya, .int 0]))] sz)) 0 0 (va_A [(a0, .inr (0, [.ref ya, .int 0]))] sz) := by
  refine Met.ofW (cc := cX0_shorten) (maxL := 2) (ret := none) (by decide) rfl ?_
  intro p e s m args below meth c s₁ B hml hv
  obtain ⟨rfl, hsz, hP, hK, hD0⟩ := hv
  have hx := B.exec
  have hb := B.bytes
  have hr := B.returns
  have hts0 := atoms_spec (ws := pwX0_shorten) B.pre
  have hts := fun w (h : w ∈ pwAll) => hts0 w (List.mem_cons_of_mem _ h)
  have hown : s.vm.findClass RX0 = some m.cls := findClass_of_methodNamed B.named
  have hlocks := B.notSynchronized
  subst hsz
  have hD := hD0.self (sz := s.heap.size)
  generalize hAe : va_A [(a0, .inr (0, [.ref ya, .int 0]))] s.heap.size = A at hD ⊢
  have hA : ∀ q : Nat, s.heap.size ≤ q → A q := fun q h => by rw [← hAe]; exact Or.inr h
  have hS : va_S A s.heap s.heap [] := va_S.rf
  have hP : va_P (dC, dI) vwCl [(a0, .inr (0, [.ref ya, .int 0]))] s.heap := hP
  have hl := lv_entry ([.ref a0, .int k0]) (n := 2) (Nat.le_of_ble_eq_true rfl)
  rw [lg_entry_eq]
  generalize (lg_sl ([.ref a0, .int k0]) ++ List.replicate (2 - (lg_sl ([.ref a0, .int k0])).length) Slot.unset).toArray = ls at hl ⊢
  have hl : lv_has ls 2 [(0, .ref a0), (1, .int k0)] := hl
  refine lv_aload_n hx hb dX0_shorten_0 rfl (lv_at hl 0 rfl) ?_
  refine lv_iconst (v := 0) hx hb dX0_shorten_1 (by decide) ?_
  refine lv_iload_n hx hb dX0_shorten_2 rfl (lv_at hl 1 rfl) ?_
  refine lv_aload_n hx hb dX0_shorten_3 rfl (lv_at hl 0 rfl) ?_
  refine va_get (D := (dC, dI)) (ci := 0) (v := .int 0) (C := RX0) (T := TX0) (N := 2) hx hb hts inAll_0 hown hK hP 0 rfl rfl 1 (by decide) (hts (.fieldLink RX0 21 "LoopEnvelopes$Bytes" "used" "I") k_9) (fun _ h9 => h9) rfl dX0_shorten_4 ?_
  refine va_mmin hx hb (by rw [hml]; exact hl.1.symm) hown (hts (.methodLink RX0 25 Lib.Math.min.name) k_91) (hts (.static Lib.Math.min.name) k_92) (hts (.initialized "java/lang/Math") k_5) (hts (.code Lib.Math.min.name Lib.Math.min.code 2 (some .int)) k_93) (Nat.le_of_ble_eq_true rfl) (Nat.le_of_ble_eq_true rfl) (Nat.le_of_ble_eq_true rfl) (Nat.le_of_ble_eq_true rfl) dX0_shorten_7 ?_
  refine pf_top (y := k0) (if_neg (Int32.not_lt.mpr g1)) ?_
  refine va_mmax hx hb (by rw [hml]; exact hl.1.symm) hown (hts (.methodLink RX0 9 Lib.Math.max.name) k_3) (hts (.static Lib.Math.max.name) k_4) (hts (.initialized "java/lang/Math") k_5) (hts (.code Lib.Math.max.name Lib.Math.max.code 2 (some .int)) k_6) (Nat.le_of_ble_eq_true rfl) (Nat.le_of_ble_eq_true rfl) (Nat.le_of_ble_eq_true rfl) (Nat.le_of_ble_eq_true rfl) dX0_shorten_10 ?_
  refine pf_top (y := 0) (if_neg (Int32.not_lt.mpr g1)) ?_
  refine va_put (D := (dC, dI)) (ci := 0) (v := .int 0) (ty := .int) (C := RX0) (T := TX0) (N := 2) hx hb hts inAll_0 tyX0 tyX0_ok nmX0 hown hK hP hD hS 0 rfl rfl 1 (by decide) (hts (.fieldLink RX0 21 "LoopEnvelopes$Bytes" "used" "I") k_9) (fun _ h9 => h9) rfl (by decide +kernel) rfl rfl (Nat.le_of_ble_eq_true rfl) dX0_shorten_13 (fun H locs hP hD hS => ?_)
  have hP : va_P (dC, dI) vwCl [(a0, .inr (0, [.ref ya, .int 0]))] H := hP
  have hD : va_D A [(a0, .inr (0, [.ref ya, .int 0]))] := hD
  have hP9 := hP.sub (ws' := [(a0, .inr (0, [.ref ya, .int 0]))]) [0] rfl
  have hD9 := hD.sub (ws' := [(a0, .inr (0, [.ref ya, .int 0]))]) [0] (by decide) rfl
  have hK9 := hK.sub (tys' := []) [] rfl
  exact W.vret hx hb hr (fun t ht hW => ⟨⟨(), rfl, trivial, by rw [ht]; exact hP9, va_K.moved hW.alike hK9, hD9⟩, hS.F ht⟩) hS.2.2 dX0_shorten_16

set_option maxHeartbeats 4000000 in
set_option maxRecDepth 100000 in
/-- become(other), both without bytes -/
theorem c_X0_become (l : Launch) (dC : Nat → ClassId) (dI : Nat → Nat → Nat) (sz : Nat) (a0 : Nat) (ya : Nat) (a1 : Nat) (yb : Nat) : Met l yX0_become pwX0_become ({ frames := 0, cells := 0, slots := 0, locals := 0 } : Room) (va_Pc [.ref a0, .ref a1] (fun U => U.heap.size = sz ∧ va_P (dC, dI) vwCl [(a0, .inr (0, [.ref ya, .int 0])), (a1, .inr (0, [.ref yb, .int 0]))] U.heap ∧ va_K (dC, dI) vwCl [] U ∧ va_D (fun _ => True) [(a0, .inr (0, [.ref ya, .int 0])), (a1, .inr (0, [.ref yb, .int 0]))])) (va_Qv (fun _ : Unit => True) (fun (_ : Unit) (t : State) => va_P (dC, dI) vwCl [(a0, .inr (0, [.ref ya, .int 0])), (a1, .inr (0, [.ref yb, .int 0]))] t.heap ∧ va_K (dC, dI) vwCl [] t ∧ va_D (va_A [(a0, .inr (0, [.ref ya, .int 0])), (a1, .inr (0, [.ref yb, .int 0]))] sz) [(a0, .inr (0, [.ref ya, .int 0])), (a1, .inr (0, [.ref yb, .int 0]))]) (va_A [(a0, .inr (0, [.ref ya, .int 0])), (a1, .inr (0, [.ref yb, .int 0]))] sz)) 0 0 (va_A [(a0, .inr (0, [.ref ya, .int 0])), (a1, .inr (0, [.ref yb, .int 0]))] sz) := by
  refine Met.ofW (cc := cX0_become) (maxL := 3) (ret := none) (by decide) rfl ?_
  intro p e s m args below meth c s₁ B hml hv
  obtain ⟨rfl, hsz, hP, hK, hD0⟩ := hv
  have hx := B.exec
  have hb := B.bytes
  have hr := B.returns
  have hts0 := atoms_spec (ws := pwX0_become) B.pre
  have hts := fun w (h : w ∈ pwAll) => hts0 w (List.mem_cons_of_mem _ h)
  have hown : s.vm.findClass RX0 = some m.cls := findClass_of_methodNamed B.named
  have hlocks := B.notSynchronized
  subst hsz
  have hD := hD0.self (sz := s.heap.size)
  generalize hAe : va_A [(a0, .inr (0, [.ref ya, .int 0])), (a1, .inr (0, [.ref yb, .int 0]))] s.heap.size = A at hD ⊢
  have hA : ∀ q : Nat, s.heap.size ≤ q → A q := fun q h => by rw [← hAe]; exact Or.inr h
  have hS : va_S A s.heap s.heap [] := va_S.rf
  have hP : va_P (dC, dI) vwCl [(a0, .inr (0, [.ref ya, .int 0])), (a1, .inr (0, [.ref yb, .int 0]))] s.heap := hP
  have hl := lv_entry ([.ref a0, .ref a1]) (n := 3) (Nat.le_of_ble_eq_true rfl)
  rw [lg_entry_eq]
  generalize (lg_sl ([.ref a0, .ref a1]) ++ List.replicate (3 - (lg_sl ([.ref a0, .ref a1])).length) Slot.unset).toArray = ls at hl ⊢
  have hl : lv_has ls 3 [(0, .ref a0), (1, .ref a1)] := hl
  refine lv_aload_n hx hb dX0_become_0 rfl (lv_at hl 0 rfl) ?_
  refine lv_iconst (v := 0) hx hb dX0_become_1 (by decide) ?_
  refine va_put (D := (dC, dI)) (ci := 0) (v := .int 0) (ty := .int) (C := RX0) (T := TX0) (N := 2) hx hb hts inAll_0 tyX0 tyX0_ok nmX0 hown hK hP hD hS 0 rfl rfl 1 (by decide) (hts (.fieldLink RX0 21 "LoopEnvelopes$Bytes" "used" "I") k_9) (fun _ h9 => h9) rfl (by decide +kernel) rfl rfl (Nat.le_of_ble_eq_true rfl) dX0_become_2 (fun H locs hP hD hS => ?_)
  have hP : va_P (dC, dI) vwCl [(a0, .inr (0, [.ref ya, .int 0])), (a1, .inr (0, [.ref yb, .int 0]))] H := hP
  have hD : va_D A [(a0, .inr (0, [.ref ya, .int 0])), (a1, .inr (0, [.ref yb, .int 0]))] := hD
  refine lv_iconst (v := 0) hx hb dX0_become_5 (by decide) ?_
  refine lv_istore_n (lv' := [(2, .int 0), (0, .ref a0), (1, .ref a1)]) hx hb dX0_become_6 rfl hl (by decide) rfl (fun ls hl => ?_)
  refine lv_iload_n hx hb dX0_become_7 rfl (lv_at hl 0 rfl) ?_
  refine lv_aload_n hx hb dX0_become_8 rfl (lv_at hl 2 rfl) ?_
  refine va_get (D := (dC, dI)) (ci := 0) (v := .int 0) (C := RX0) (T := TX0) (N := 2) hx hb hts inAll_0 hown hK hP 1 rfl rfl 1 (by decide) (hts (.fieldLink RX0 21 "LoopEnvelopes$Bytes" "used" "I") k_9) (fun _ h9 => h9) rfl dX0_become_9 ?_
  refine lv_icmp_ge (tgt := 31) hx hb dX0_become_12 (by decide) (fun c_12 => ?_) (fun c_12 => absurd (by decide) c_12)
  have hP9 := hP.sub (ws' := [(a0, .inr (0, [.ref ya, .int 0])), (a1, .inr (0, [.ref yb, .int 0]))]) [0, 1] rfl
  have hD9 := hD.sub (ws' := [(a0, .inr (0, [.ref ya, .int 0])), (a1, .inr (0, [.ref yb, .int 0]))]) [0, 1] (by decide) rfl
  have hK9 := hK.sub (tys' := []) [] rfl
  exact W.vret hx hb hr (fun t ht hW => ⟨⟨(), rfl, trivial, by rw [ht]; exact hP9, va_K.moved hW.alike hK9, hD9⟩, hS.F ht⟩) hS.2.2 dX0_become_31

set_option maxHeartbeats 4000000 in
set_option maxRecDepth 100000 in
/-- take(text) -/
theorem c_X3_take (l : Launch) (dC : Nat → ClassId) (dI : Nat → Nat → Nat) (sz : Nat) (a0 : Nat) (b2 : Nat) (t1 : Nat) (t2 : Nat) (t3 : Nat) (yb : Nat) (a1 : Nat) (ya : Nat) : Met l yX3_take pwX3_take ({ frames := 1, cells := 0, slots := 0, locals := 22 } : Room) (va_Pc [.ref a0, .ref a1] (fun U => U.heap.size = sz ∧ va_P (dC, dI) vwCl [(a0, .inr (3, [.ref b2, .ref t1, .ref t2, .ref t3, .int 0])), (b2, .inr (0, [.ref yb, .int 0])), (a1, .inr (0, [.ref ya, .int 0]))] U.heap ∧ va_K (dC, dI) vwCl [] U ∧ va_D (fun _ => True) [(a0, .inr (3, [.ref b2, .ref t1, .ref t2, .ref t3, .int 0])), (b2, .inr (0, [.ref yb, .int 0])), (a1, .inr (0, [.ref ya, .int 0]))])) (va_Qv (fun _ : Unit => True) (fun (_ : Unit) (t : State) => va_P (dC, dI) vwCl [(a0, .inr (3, [.ref b2, .ref t1, .ref t2, .ref t3, .int 0])), (b2, .inr (0, [.ref yb, .int 0])), (a1, .inr (0, [.ref ya, .int 0]))] t.heap ∧ va_K (dC, dI) vwCl [] t ∧ va_D (va_A [(a0, .inr (3, [.ref b2, .ref t1, .ref t2, .ref t3, .int 0])), (b2, .inr (0, [.ref yb, .int 0])), (a1, .inr (0, [.ref ya, .int 0]))] sz) [(a0, .inr (3, [.ref b2, .ref t1, .ref t2, .ref t3, .int 0])), (b2, .inr (0, [.ref yb, .int 0])), (a1, .inr (0, [.ref ya, .int 0]))]) (va_A [(a0, .inr (3, [.ref b2, .ref t1, .ref t2, .ref t3, .int 0])), (b2, .inr (0, [.ref yb, .int 0])), (a1, .inr (0, [.ref ya, .int 0]))] sz)) 0 0 (va_A [(a0, .inr (3, [.ref b2, .ref t1, .ref t2, .ref t3, .int 0])), (b2, .inr (0, [.ref yb, .int 0])), (a1, .inr (0, [.ref ya, .int 0]))] sz) := by
  refine Met.ofW (cc := cX3_take) (maxL := 2) (ret := none) (by decide) rfl ?_
  intro p e s m args below meth c s₁ B hml hv
  obtain ⟨rfl, hsz, hP, hK, hD0⟩ := hv
  have hx := B.exec
  have hb := B.bytes
  have hr := B.returns
  have hts0 := atoms_spec (ws := pwX3_take) B.pre
  have hts := fun w (h : w ∈ pwAll) => hts0 w (List.mem_cons_of_mem _ h)
  have hown : s.vm.findClass RX3 = some m.cls := findClass_of_methodNamed B.named
  have hlocks := B.notSynchronized
  subst hsz
  have hD := hD0.self (sz := s.heap.size)
  generalize hAe : va_A [(a0, .inr (3, [.ref b2, .ref t1, .ref t2, .ref t3, .int 0])), (b2, .inr (0, [.ref yb, .int 0])), (a1, .inr (0, [.ref ya, .int 0]))] s.heap.size = A at hD ⊢
  have hA : ∀ q : Nat, s.heap.size ≤ q → A q := fun q h => by rw [← hAe]; exact Or.inr h
  have hS : va_S A s.heap s.heap [] := va_S.rf
  have hP : va_P (dC, dI) vwCl [(a0, .inr (3, [.ref b2, .ref t1, .ref t2, .ref t3, .int 0])), (b2, .inr (0, [.ref yb, .int 0])), (a1, .inr (0, [.ref ya, .int 0]))] s.heap := hP
  have hl := lv_entry ([.ref a0, .ref a1]) (n := 2) (Nat.le_of_ble_eq_true rfl)
  rw [lg_entry_eq]
  generalize (lg_sl ([.ref a0, .ref a1]) ++ List.replicate (2 - (lg_sl ([.ref a0, .ref a1])).length) Slot.unset).toArray = ls at hl ⊢
  have hl : lv_has ls 2 [(0, .ref a0), (1, .ref a1)] := hl
  refine lv_aload_n hx hb dX3_take_0 rfl (lv_at hl 0 rfl) ?_
  refine va_get (D := (dC, dI)) (ci := 3) (v := .ref b2) (C := RX3) (T := TX3) (N := 5) hx hb hts inAll_3 hown hK hP 0 rfl rfl 0 (by decide) (hts (.fieldLink RX3 14 "LoopEnvelopes$Segments" "bytes" "LLoopEnvelopes$Bytes;") k_23) (fun _ h9 => h9) rfl dX3_take_1 ?_
  refine lv_aload_n hx hb dX3_take_4 rfl (lv_at hl 1 rfl) ?_
  have hPc := hP.sub (ws' := [(b2, .inr (0, [.ref yb, .int 0])), (a1, .inr (0, [.ref ya, .int 0]))]) [1, 2] rfl
  have hDc := hD.sub (ws' := [(b2, .inr (0, [.ref yb, .int 0])), (a1, .inr (0, [.ref ya, .int 0]))]) [1, 2] (by decide) rfl
  have hKc := hK.sub (tys' := []) [] rfl
  have hFc := va_free (wc := [(b2, .inr (0, [.ref yb, .int 0])), (a1, .inr (0, [.ref ya, .int 0]))]) hD hS hA [1, 2] rfl
  refine va_callv (va_runV (As := [.ref a1]) (rest := []) ⟨hx, hb, hml, hown, hts⟩ (c_X0_become l dC dI s.heap.size b2 yb a1 ya) (cwV 1 hts gg_RX3_39 rfl rfl rfl (by decide +kernel) ⟨Nat.le_of_ble_eq_true rfl, Nat.le_of_ble_eq_true rfl⟩) ⟨fun a U g mk q => by obtain ⟨q0, q1, qP, qK, qD⟩ := q; exact ⟨q0, q1, qP, va_K.moved (u := U) (U := U.calling g mk a) (Vm.Alike.refl U.vm) qK, qD⟩, va_recv hK hP (ci := 0) (q0 := 1) rfl rfl, fun U hU hW => ⟨rfl, by rw [hU], by rw [hU]; exact hPc, va_K.moved hW.alike hKc, hDc.weaken (fun _ _ _ _ => trivial)⟩⟩ rfl rfl hl.1 rfl (lv_room (Nat.le_of_ble_eq_true rfl)) dX3_take_5 ⟨Nat.le_of_ble_eq_true rfl, Nat.le_of_ble_eq_true rfl⟩) hS (fun q _ h => hFc q h) hFc (fun u t H1 locs ht hvm hw hB hz1 hk1 hS => ?_)
  obtain ⟨hP1, hK1, hD1⟩ := hB
  rw [ht] at hP1
  have hK1 := va_K.moved hvm.symm hK1
  obtain ⟨hP, hD⟩ := va_join (wr := [(a0, .inr (3, [.ref b2, .ref t1, .ref t2, .ref t3, .int 0]))]) (w1 := [(b2, .inr (0, [.ref yb, .int 0])), (a1, .inr (0, [.ref ya, .int 0]))]) hP hD [1, 2] [0] rfl rfl (by decide) (by decide) hk1 hFc hP1 hD1
  have hK := (hK.sub (tys' := []) [] rfl).app hK1
  generalize H1 = H at hP hS ⊢
  have hP : va_P (dC, dI) vwCl [(a0, .inr (3, [.ref b2, .ref t1, .ref t2, .ref t3, .int 0])), (b2, .inr (0, [.ref yb, .int 0])), (a1, .inr (0, [.ref ya, .int 0]))] H := hP
  have hD : va_D A [(a0, .inr (3, [.ref b2, .ref t1, .ref t2, .ref t3, .int 0])), (b2, .inr (0, [.ref yb, .int 0])), (a1, .inr (0, [.ref ya, .int 0]))] := hD
  have hK : va_K (dC, dI) vwCl [] s := hK
  refine lv_aload_n hx hb dX3_take_8 rfl (lv_at hl 0 rfl) ?_
  refine lv_iconst (v := 0) hx hb dX3_take_9 (by decide) ?_
  refine va_put (D := (dC, dI)) (ci := 3) (v := .int 0) (ty := .int) (C := RX3) (T := TX3) (N := 5) hx hb hts inAll_3 tyX3 tyX3_ok nmX3 hown hK hP hD hS 0 rfl rfl 4 (by decide) (hts (.fieldLink RX3 35 "LoopEnvelopes$Segments" "held" "I") k_33) (fun _ h9 => h9) rfl (by decide +kernel) rfl rfl (Nat.le_of_ble_eq_true rfl) dX3_take_10 (fun H locs hP hD hS => ?_)
  have hP : va_P (dC, dI) vwCl [(a0, .inr (3, [.ref b2, .ref t1, .ref t2, .ref t3, .int 0])), (b2, .inr (0, [.ref yb, .int 0])), (a1, .inr (0, [.ref ya, .int 0]))] H := hP
  have hD : va_D A [(a0, .inr (3, [.ref b2, .ref t1, .ref t2, .ref t3, .int 0])), (b2, .inr (0, [.ref yb, .int 0])), (a1, .inr (0, [.ref ya, .int 0]))] := hD
  have hP9 := hP.sub (ws' := [(a0, .inr (3, [.ref b2, .ref t1, .ref t2, .ref t3, .int 0])), (b2, .inr (0, [.ref yb, .int 0])), (a1, .inr (0, [.ref ya, .int 0]))]) [0, 1, 2] rfl
  have hD9 := hD.sub (ws' := [(a0, .inr (3, [.ref b2, .ref t1, .ref t2, .ref t3, .int 0])), (b2, .inr (0, [.ref yb, .int 0])), (a1, .inr (0, [.ref ya, .int 0]))]) [0, 1, 2] (by decide) rfl
  have hK9 := hK.sub (tys' := []) [] rfl
  exact W.vret hx hb hr (fun t ht hW => ⟨⟨(), rfl, trivial, by rw [ht]; exact hP9, va_K.moved hW.alike hK9, hD9⟩, hS.F ht⟩) hS.2.2 dX3_take_13

set_option maxHeartbeats 4000000 in
set_option maxRecDepth 100000 in
theorem c_X3_splitter (l : Launch) (dC : Nat → ClassId) (dI : Nat → Nat → Nat) (sz : Nat) (a0 : Nat) (b2 : Nat) (t1 : Nat) (t2 : Nat) (t3 : Nat) (yb : Nat) : Met l yX3_splitter pwX3_splitter ({ frames := 1, cells := 0, slots := 0, locals := 21 } : Room) (va_Pc [.ref a0] (fun U => U.heap.size = sz ∧ va_P (dC, dI) vwCl [(a0, .inr (3, [.ref b2, .ref t1, .ref t2, .ref t3, .int 0])), (b2, .inr (0, [.ref yb, .int 0]))] U.heap ∧ va_K (dC, dI) vwCl [] U ∧ va_D (fun _ => True) [(a0, .inr (3, [.ref b2, .ref t1, .ref t2, .ref t3, .int 0])), (b2, .inr (0, [.ref yb, .int 0]))])) (va_Qi (fun (r : Int32) (_ : Unit) => r = (-1)) (fun (_ : Unit) (t : State) => va_P (dC, dI) vwCl [(a0, .inr (3, [.ref b2, .ref t1, .ref t2, .ref t3, .int 0])), (b2, .inr (0, [.ref yb, .int 0]))] t.heap ∧ va_K (dC, dI) vwCl [] t ∧ va_D (va_A [(a0, .inr (3, [.ref b2, .ref t1, .ref t2, .ref t3, .int 0])), (b2, .inr (0, [.ref yb, .int 0]))] sz) [(a0, .inr (3, [.ref b2, .ref t1, .ref t2, .ref t3, .int 0])), (b2, .inr (0, [.ref yb, .int 0]))]) (va_A [(a0, .inr (3, [.ref b2, .ref t1, .ref t2, .ref t3, .int 0])), (b2, .inr (0, [.ref yb, .int 0]))] sz)) 0 0 (va_A [(a0, .inr (3, [.ref b2, .ref t1, .ref t2, .ref t3, .int 0])), (b2, .inr (0, [.ref yb, .int 0]))] sz) := by
  refine Met.ofW (cc := cX3_splitter) (maxL := 1) (ret := (some .int)) (by decide) rfl ?_
  intro p e s m args below meth c s₁ B hml hv
  obtain ⟨rfl, hsz, hP, hK, hD0⟩ := hv
  have hx := B.exec
  have hb := B.bytes
  have hr := B.returns
  have hts0 := atoms_spec (ws := pwX3_splitter) B.pre
  have hts := fun w (h : w ∈ pwAll) => hts0 w (List.mem_cons_of_mem _ h)
  have hown : s.vm.findClass RX3 = some m.cls := findClass_of_methodNamed B.named
  have hlocks := B.notSynchronized
  subst hsz
  have hD := hD0.self (sz := s.heap.size)
  generalize hAe : va_A [(a0, .inr (3, [.ref b2, .ref t1, .ref t2, .ref t3, .int 0])), (b2, .inr (0, [.ref yb, .int 0]))] s.heap.size = A at hD ⊢
  have hA : ∀ q : Nat, s.heap.size ≤ q → A q := fun q h => by rw [← hAe]; exact Or.inr h
  have hS : va_S A s.heap s.heap [] := va_S.rf
  have hP : va_P (dC, dI) vwCl [(a0, .inr (3, [.ref b2, .ref t1, .ref t2, .ref t3, .int 0])), (b2, .inr (0, [.ref yb, .int 0]))] s.heap := hP
  have hl := lv_entry ([.ref a0]) (n := 1) (Nat.le_of_ble_eq_true rfl)
  rw [lg_entry_eq]
  generalize (lg_sl ([.ref a0]) ++ List.replicate (1 - (lg_sl ([.ref a0])).length) Slot.unset).toArray = ls at hl ⊢
  have hl : lv_has ls 1 [(0, .ref a0)] := hl
  refine lv_aload_n hx hb dX3_splitter_0 rfl (lv_at hl 0 rfl) ?_
  refine va_get (D := (dC, dI)) (ci := 3) (v := .ref b2) (C := RX3) (T := TX3) (N := 5) hx hb hts inAll_3 hown hK hP 0 rfl rfl 0 (by decide) (hts (.fieldLink RX3 14 "LoopEnvelopes$Segments" "bytes" "LLoopEnvelopes$Bytes;") k_23) (fun _ h9 => h9) rfl dX3_splitter_1 ?_
  refine lv_iconst (v := 3) hx hb dX3_splitter_4 (by decide) ?_
  have hPc := hP.sub (ws' := [(b2, .inr (0, [.ref yb, .int 0]))]) [1] rfl
  have hDc := hD.sub (ws' := [(b2, .inr (0, [.ref yb, .int 0]))]) [1] (by decide) rfl
  have hKc := hK.sub (tys' := []) [] rfl
  have hFc := va_free (wc := [(b2, .inr (0, [.ref yb, .int 0]))]) hD hS hA [1] rfl
  refine va_calli (va_runV (As := [.int 3]) (rest := []) ⟨hx, hb, hml, hown, hts⟩ (c_X0_at0 l dC dI s.heap.size b2 yb 3) (cwV 1 hts gg_RX3_47 rfl rfl rfl (by decide +kernel) ⟨Nat.le_of_ble_eq_true rfl, Nat.le_of_ble_eq_true rfl⟩) ⟨fun a U g mk q => by obtain ⟨q0, q1, qP, qK, qD⟩ := q; exact ⟨q0, q1, qP, va_K.moved (u := U) (U := U.calling g mk a) (Vm.Alike.refl U.vm) qK, qD⟩, va_recv hK hP (ci := 0) (q0 := 1) rfl rfl, fun U hU hW => ⟨rfl, by rw [hU], by rw [hU]; exact hPc, va_K.moved hW.alike hKc, hDc.weaken (fun _ _ _ _ => trivial)⟩⟩ rfl rfl hl.1 rfl (lv_room (Nat.le_of_ble_eq_true rfl)) dX3_splitter_5 ⟨Nat.le_of_ble_eq_true rfl, Nat.le_of_ble_eq_true rfl⟩) hS (fun q _ h => hFc q h) hFc (fun r1 u t H1 locs ht hvm hw hB hz1 hk1 hS => ?_)
  obtain ⟨hP1, hK1, hD1⟩ := hB
  rw [ht] at hP1
  have hK1 := va_K.moved hvm.symm hK1
  obtain ⟨hP, hD⟩ := va_join (wr := [(a0, .inr (3, [.ref b2, .ref t1, .ref t2, .ref t3, .int 0]))]) (w1 := [(b2, .inr (0, [.ref yb, .int 0]))]) hP hD [1] [0] rfl rfl (by decide) (by decide) hk1 hFc hP1 hD1
  have hK := (hK.sub (tys' := []) [] rfl).app hK1
  generalize H1 = H at hP hS ⊢
  have hP : va_P (dC, dI) vwCl [(a0, .inr (3, [.ref b2, .ref t1, .ref t2, .ref t3, .int 0])), (b2, .inr (0, [.ref yb, .int 0]))] H := hP
  have hD : va_D A [(a0, .inr (3, [.ref b2, .ref t1, .ref t2, .ref t3, .int 0])), (b2, .inr (0, [.ref yb, .int 0]))] := hD
  have hK : va_K (dC, dI) vwCl [] s := hK
  have hw : r1 = (-1) := hw
  subst hw
  have hP9 := hP.sub (ws' := [(a0, .inr (3, [.ref b2, .ref t1, .ref t2, .ref t3, .int 0])), (b2, .inr (0, [.ref yb, .int 0]))]) [0, 1] rfl
  have hD9 := hD.sub (ws' := [(a0, .inr (3, [.ref b2, .ref t1, .ref t2, .ref t3, .int 0])), (b2, .inr (0, [.ref yb, .int 0]))]) [0, 1] (by decide) rfl
  have hK9 := hK.sub (tys' := []) [] rfl
  exact W.iret (v := (-1)) hx hb hr (fun t ht hW => ⟨⟨(-1), (), rfl, rfl, by rw [ht]; exact hP9, va_K.moved hW.alike hK9, hD9⟩, hS.F ht⟩) hS.2.2 dX3_splitter_8

set_option maxHeartbeats 4000000 in
set_option maxRecDepth 100000 in
theorem c_X3_closer (l : Launch) (dC : Nat → ClassId) (dI : Nat → Nat → Nat) (sz : Nat) (a0 : Nat) (b2 : Nat) (t1 : Nat) (t2 : Nat) (t3 : Nat) (yb : Nat) : Met l yX3_closer pwX3_closer ({ frames := 1, cells := 0, slots := 0, locals := 21 } : Room) (va_Pc [.ref a0] (fun U => U.heap.size = sz ∧ va_P (dC, dI) vwCl [(a0, .inr (3, [.ref b2, .ref t1, .ref t2, .ref t3, .int 0])), (b2, .inr (0, [.ref yb, .int 0]))] U.heap ∧ va_K (dC, dI) vwCl [] U ∧ va_D (fun _ => True) [(a0, .inr (3, [.ref b2, .ref t1, .ref t2, .ref t3, .int 0])), (b2, .inr (0, [.ref yb, .int 0]))])) (va_Qi (fun (r : Int32) (_ : Unit) => r = (-1)) (fun (_ : Unit) (t : State) => va_P (dC, dI) vwCl [(a0, .inr (3, [.ref b2, .ref t1, .ref t2, .ref t3, .int 0])), (b2, .inr (0, [.ref yb, .int 0]))] t.heap ∧ va_K (dC, dI) vwCl [] t ∧ va_D (va_A [(a0, .inr (3, [.ref b2, .ref t1, .ref t2, .ref t3, .int 0])), (b2, .inr (0, [.ref yb, .int 0]))] sz) [(a0, .inr (3, [.ref b2, .ref t1, .ref t2, .ref t3, .int 0])), (b2, .inr (0, [.ref yb, .int 0]))]) (va_A [(a0, .inr (3, [.ref b2, .ref t1, .ref t2, .ref t3, .int 0])), (b2, .inr (0, [.ref yb, .int 0]))] sz)) 0 0 (va_A [(a0, .inr (3, [.ref b2, .ref t1, .ref t2, .ref t3, .int 0])), (b2, .inr (0, [.ref yb, .int 0]))] sz) := by
  refine Met.ofW (cc := cX3_closer) (maxL := 1) (ret := (some .int)) (by decide) rfl ?_
  intro p e s m args below meth c s₁ B hml hv
  obtain ⟨rfl, hsz, hP, hK, hD0⟩ := hv
  have hx := B.exec
  have hb := B.bytes
  have hr := B.returns
  have hts0 := atoms_spec (ws := pwX3_closer) B.pre
  have hts := fun w (h : w ∈ pwAll) => hts0 w (List.mem_cons_of_mem _ h)
  have hown : s.vm.findClass RX3 = some m.cls := findClass_of_methodNamed B.named
  have hlocks := B.notSynchronized
  subst hsz
  have hD := hD0.self (sz := s.heap.size)
  generalize hAe : va_A [(a0, .inr (3, [.ref b2, .ref t1, .ref t2, .ref t3, .int 0])), (b2, .inr (0, [.ref yb, .int 0]))] s.heap.size = A at hD ⊢
  have hA : ∀ q : Nat, s.heap.size ≤ q → A q := fun q h => by rw [← hAe]; exact Or.inr h
  have hS : va_S A s.heap s.heap [] := va_S.rf
  have hP : va_P (dC, dI) vwCl [(a0, .inr (3, [.ref b2, .ref t1, .ref t2, .ref t3, .int 0])), (b2, .inr (0, [.ref yb, .int 0]))] s.heap := hP
  have hl := lv_entry ([.ref a0]) (n := 1) (Nat.le_of_ble_eq_true rfl)
  rw [lg_entry_eq]
  generalize (lg_sl ([.ref a0]) ++ List.replicate (1 - (lg_sl ([.ref a0])).length) Slot.unset).toArray = ls at hl ⊢
  have hl : lv_has ls 1 [(0, .ref a0)] := hl
  refine lv_aload_n hx hb dX3_closer_0 rfl (lv_at hl 0 rfl) ?_
  refine va_get (D := (dC, dI)) (ci := 3) (v := .ref b2) (C := RX3) (T := TX3) (N := 5) hx hb hts inAll_3 hown hK hP 0 rfl rfl 0 (by decide) (hts (.fieldLink RX3 14 "LoopEnvelopes$Segments" "bytes" "LLoopEnvelopes$Bytes;") k_23) (fun _ h9 => h9) rfl dX3_closer_1 ?_
  refine lv_bipush (v := 15) hx hb dX3_closer_4 (by decide) ?_
  have hPc := hP.sub (ws' := [(b2, .inr (0, [.ref yb, .int 0]))]) [1] rfl
  have hDc := hD.sub (ws' := [(b2, .inr (0, [.ref yb, .int 0]))]) [1] (by decide) rfl
  have hKc := hK.sub (tys' := []) [] rfl
  have hFc := va_free (wc := [(b2, .inr (0, [.ref yb, .int 0]))]) hD hS hA [1] rfl
  refine va_calli (va_runV (As := [.int 15]) (rest := []) ⟨hx, hb, hml, hown, hts⟩ (c_X0_at0 l dC dI s.heap.size b2 yb 15) (cwV 1 hts gg_RX3_47 rfl rfl rfl (by decide +kernel) ⟨Nat.le_of_ble_eq_true rfl, Nat.le_of_ble_eq_true rfl⟩) ⟨fun a U g mk q => by obtain ⟨q0, q1, qP, qK, qD⟩ := q; exact ⟨q0, q1, qP, va_K.moved (u := U) (U := U.calling g mk a) (Vm.Alike.refl U.vm) qK, qD⟩, va_recv hK hP (ci := 0) (q0 := 1) rfl rfl, fun U hU hW => ⟨rfl, by rw [hU], by rw [hU]; exact hPc, va_K.moved hW.alike hKc, hDc.weaken (fun _ _ _ _ => trivial)⟩⟩ rfl rfl hl.1 rfl (lv_room (Nat.le_of_ble_eq_true rfl)) dX3_closer_6 ⟨Nat.le_of_ble_eq_true rfl, Nat.le_of_ble_eq_true rfl⟩) hS (fun q _ h => hFc q h) hFc (fun r1 u t H1 locs ht hvm hw hB hz1 hk1 hS => ?_)
  obtain ⟨hP1, hK1, hD1⟩ := hB
  rw [ht] at hP1
  have hK1 := va_K.moved hvm.symm hK1
  obtain ⟨hP, hD⟩ := va_join (wr := [(a0, .inr (3, [.ref b2, .ref t1, .ref t2, .ref t3, .int 0]))]) (w1 := [(b2, .inr (0, [.ref yb, .int 0]))]) hP hD [1] [0] rfl rfl (by decide) (by decide) hk1 hFc hP1 hD1
  have hK := (hK.sub (tys' := []) [] rfl).app hK1
  generalize H1 = H at hP hS ⊢
  have hP : va_P (dC, dI) vwCl [(a0, .inr (3, [.ref b2, .ref t1, .ref t2, .ref t3, .int 0])), (b2, .inr (0, [.ref yb, .int 0]))] H := hP
  have hD : va_D A [(a0, .inr (3, [.ref b2, .ref t1, .ref t2, .ref t3, .int 0])), (b2, .inr (0, [.ref yb, .int 0]))] := hD
  have hK : va_K (dC, dI) vwCl [] s := hK
  have hw : r1 = (-1) := hw
  subst hw
  have hP9 := hP.sub (ws' := [(a0, .inr (3, [.ref b2, .ref t1, .ref t2, .ref t3, .int 0])), (b2, .inr (0, [.ref yb, .int 0]))]) [0, 1] rfl
  have hD9 := hD.sub (ws' := [(a0, .inr (3, [.ref b2, .ref t1, .ref t2, .ref t3, .int 0])), (b2, .inr (0, [.ref yb, .int 0]))]) [0, 1] (by decide) rfl
  have hK9 := hK.sub (tys' := []) [] rfl
  exact W.iret (v := (-1)) hx hb hr (fun t ht hW => ⟨⟨(-1), (), rfl, rfl, by rw [ht]; exact hP9, va_K.moved hW.alike hK9, hD9⟩, hS.F ht⟩) hS.2.2 dX3_closer_9

set_option maxHeartbeats 4000000 in
set_option maxRecDepth 100000 in
/-- opens(), of no bytes -/
theorem c_X3_opens (l : Launch) (dC : Nat → ClassId) (dI : Nat → Nat → Nat) (sz : Nat) (a0 : Nat) (b2 : Nat) (t1 : Nat) (t2 : Nat) (t3 : Nat) (yb : Nat) : Met l yX3_opens pwX3_opens ({ frames := 2, cells := 0, slots := 0, locals := 41 } : Room) (va_Pc [.ref a0] (fun U => U.heap.size = sz ∧ va_P (dC, dI) vwCl [(a0, .inr (3, [.ref b2, .ref t1, .ref t2, .ref t3, .int 0])), (b2, .inr (0, [.ref yb, .int 0]))] U.heap ∧ va_K (dC, dI) vwCl [] U ∧ va_D (fun _ => True) [(a0, .inr (3, [.ref b2, .ref t1, .ref t2, .ref t3, .int 0])), (b2, .inr (0, [.ref yb, .int 0]))])) (va_Qi (fun (r : Int32) (_ : Unit) => r = 0) (fun (_ : Unit) (t : State) => va_P (dC, dI) vwCl [(a0, .inr (3, [.ref b2, .ref t1, .ref t2, .ref t3, .int 0])), (b2, .inr (0, [.ref yb, .int 0]))] t.heap ∧ va_K (dC, dI) vwCl [] t ∧ va_D (va_A [(a0, .inr (3, [.ref b2, .ref t1, .ref t2, .ref t3, .int 0])), (b2, .inr (0, [.ref yb, .int 0]))] sz) [(a0, .inr (3, [.ref b2, .ref t1, .ref t2, .ref t3, .int 0])), (b2, .inr (0, [.ref yb, .int 0]))]) (va_A [(a0, .inr (3, [.ref b2, .ref t1, .ref t2, .ref t3, .int 0])), (b2, .inr (0, [.ref yb, .int 0]))] sz)) 0 0 (va_A [(a0, .inr (3, [.ref b2, .ref t1, .ref t2, .ref t3, .int 0])), (b2, .inr (0, [.ref yb, .int 0]))] sz) := by
  refine Met.ofW (cc := cX3_opens) (maxL := 4) (ret := (some .boolean)) (by decide) rfl ?_
  intro p e s m args below meth c s₁ B hml hv
  obtain ⟨rfl, hsz, hP, hK, hD0⟩ := hv
  have hx := B.exec
  have hb := B.bytes
  have hr := B.returns
  have hts0 := atoms_spec (ws := pwX3_opens) B.pre
  have hts := fun w (h : w ∈ pwAll) => hts0 w (List.mem_cons_of_mem _ h)
  have hown : s.vm.findClass RX3 = some m.cls := findClass_of_methodNamed B.named
  have hlocks := B.notSynchronized
  subst hsz
  have hD := hD0.self (sz := s.heap.size)
  generalize hAe : va_A [(a0, .inr (3, [.ref b2, .ref t1, .ref t2, .ref t3, .int 0])), (b2, .inr (0, [.ref yb, .int 0]))] s.heap.size = A at hD ⊢
  have hA : ∀ q : Nat, s.heap.size ≤ q → A q := fun q h => by rw [← hAe]; exact Or.inr h
  have hS : va_S A s.heap s.heap [] := va_S.rf
  have hP : va_P (dC, dI) vwCl [(a0, .inr (3, [.ref b2, .ref t1, .ref t2, .ref t3, .int 0])), (b2, .inr (0, [.ref yb, .int 0]))] s.heap := hP
  have hl := lv_entry ([.ref a0]) (n := 4) (Nat.le_of_ble_eq_true rfl)
  rw [lg_entry_eq]
  generalize (lg_sl ([.ref a0]) ++ List.replicate (4 - (lg_sl ([.ref a0])).length) Slot.unset).toArray = ls at hl ⊢
  have hl : lv_has ls 4 [(0, .ref a0)] := hl
  refine lv_aload_n hx hb dX3_opens_0 rfl (lv_at hl 0 rfl) ?_
  have hPc := hP.sub (ws' := [(a0, .inr (3, [.ref b2, .ref t1, .ref t2, .ref t3, .int 0])), (b2, .inr (0, [.ref yb, .int 0]))]) [0, 1] rfl
  have hDc := hD.sub (ws' := [(a0, .inr (3, [.ref b2, .ref t1, .ref t2, .ref t3, .int 0])), (b2, .inr (0, [.ref yb, .int 0]))]) [0, 1] (by decide) rfl
  have hKc := hK.sub (tys' := []) [] rfl
  have hFc := va_free (wc := [(a0, .inr (3, [.ref b2, .ref t1, .ref t2, .ref t3, .int 0])), (b2, .inr (0, [.ref yb, .int 0]))]) hD hS hA [0, 1] rfl
  refine va_calli (va_runV (As := []) (rest := []) ⟨hx, hb, hml, hown, hts⟩ (c_X3_splitter l dC dI s.heap.size a0 b2 t1 t2 t3 yb) (cwV 0 hts gg_RX3_55 rfl rfl rfl (by decide +kernel) ⟨Nat.le_of_ble_eq_true rfl, Nat.le_of_ble_eq_true rfl⟩) ⟨fun a U g mk q => by obtain ⟨q0, q1, qP, qK, qD⟩ := q; exact ⟨q0, q1, qP, va_K.moved (u := U) (U := U.calling g mk a) (Vm.Alike.refl U.vm) qK, qD⟩, va_recv hK hP (ci := 3) (q0 := 0) rfl rfl, fun U hU hW => ⟨rfl, by rw [hU], by rw [hU]; exact hPc, va_K.moved hW.alike hKc, hDc.weaken (fun _ _ _ _ => trivial)⟩⟩ rfl rfl hl.1 rfl (lv_room (Nat.le_of_ble_eq_true rfl)) dX3_opens_1 ⟨Nat.le_of_ble_eq_true rfl, Nat.le_of_ble_eq_true rfl⟩) hS (fun q _ h => hFc q h) hFc (fun r1 u t H1 locs ht hvm hw hB hz1 hk1 hS => ?_)
  obtain ⟨hP1, hK1, hD1⟩ := hB
  rw [ht] at hP1
  have hK1 := va_K.moved hvm.symm hK1
  obtain ⟨hP, hD⟩ := va_join (wr := []) (w1 := [(a0, .inr (3, [.ref b2, .ref t1, .ref t2, .ref t3, .int 0])), (b2, .inr (0, [.ref yb, .int 0]))]) hP hD [0, 1] [] rfl rfl (by decide) (by decide) hk1 hFc hP1 hD1
  have hK := (hK.sub (tys' := []) [] rfl).app hK1
  generalize H1 = H at hP hS ⊢
  have hP : va_P (dC, dI) vwCl [(a0, .inr (3, [.ref b2, .ref t1, .ref t2, .ref t3, .int 0])), (b2, .inr (0, [.ref yb, .int 0]))] H := hP
  have hD : va_D A [(a0, .inr (3, [.ref b2, .ref t1, .ref t2, .ref t3, .int 0])), (b2, .inr (0, [.ref yb, .int 0]))] := hD
  have hK : va_K (dC, dI) vwCl [] s := hK
  have hw : r1 = (-1) := hw
  subst hw
  refine lv_istore_n (lv' := [(1, .int (-1)), (0, .ref a0)]) hx hb dX3_opens_4 rfl hl (by decide) rfl (fun ls hl => ?_)
  refine lv_aload_n hx hb dX3_opens_5 rfl (lv_at hl 1 rfl) ?_
  refine va_get (D := (dC, dI)) (ci := 3) (v := .ref b2) (C := RX3) (T := TX3) (N := 5) hx hb hts inAll_3 hown hK hP 0 rfl rfl 0 (by decide) (hts (.fieldLink RX3 14 "LoopEnvelopes$Segments" "bytes" "LLoopEnvelopes$Bytes;") k_23) (fun _ h9 => h9) rfl dX3_opens_6 ?_
  refine lv_bipush (v := 14) hx hb dX3_opens_9 (by decide) ?_
  have hPc := hP.sub (ws' := [(b2, .inr (0, [.ref yb, .int 0]))]) [1] rfl
  have hDc := hD.sub (ws' := [(b2, .inr (0, [.ref yb, .int 0]))]) [1] (by decide) rfl
  have hKc := hK.sub (tys' := []) [] rfl
  have hFc := va_free (wc := [(b2, .inr (0, [.ref yb, .int 0]))]) hD hS hA [1] rfl
  refine va_calli (va_runV (As := [.int 14]) (rest := []) ⟨hx, hb, hml, hown, hts⟩ (c_X0_at0 l dC dI H.size b2 yb 14) (cwV 1 hts gg_RX3_47 rfl rfl rfl (by decide +kernel) ⟨Nat.le_of_ble_eq_true rfl, Nat.le_of_ble_eq_true rfl⟩) ⟨fun a U g mk q => by obtain ⟨q0, q1, qP, qK, qD⟩ := q; exact ⟨q0, q1, qP, va_K.moved (u := U) (U := U.calling g mk a) (Vm.Alike.refl U.vm) qK, qD⟩, va_recv hK hP (ci := 0) (q0 := 1) rfl rfl, fun U hU hW => ⟨rfl, by rw [hU], by rw [hU]; exact hPc, va_K.moved hW.alike hKc, hDc.weaken (fun _ _ _ _ => trivial)⟩⟩ rfl rfl hl.1 rfl (lv_room (Nat.le_of_ble_eq_true rfl)) dX3_opens_11 ⟨Nat.le_of_ble_eq_true rfl, Nat.le_of_ble_eq_true rfl⟩) hS (fun q _ h => hFc q h) hFc (fun r2 u t H1 locs ht hvm hw hB hz1 hk1 hS => ?_)
  obtain ⟨hP1, hK1, hD1⟩ := hB
  rw [ht] at hP1
  have hK1 := va_K.moved hvm.symm hK1
  obtain ⟨hP, hD⟩ := va_join (wr := [(a0, .inr (3, [.ref b2, .ref t1, .ref t2, .ref t3, .int 0]))]) (w1 := [(b2, .inr (0, [.ref yb, .int 0]))]) hP hD [1] [0] rfl rfl (by decide) (by decide) hk1 hFc hP1 hD1
  have hK := (hK.sub (tys' := []) [] rfl).app hK1
  generalize H1 = H at hP hS ⊢
  have hP : va_P (dC, dI) vwCl [(a0, .inr (3, [.ref b2, .ref t1, .ref t2, .ref t3, .int 0])), (b2, .inr (0, [.ref yb, .int 0]))] H := hP
  have hD : va_D A [(a0, .inr (3, [.ref b2, .ref t1, .ref t2, .ref t3, .int 0])), (b2, .inr (0, [.ref yb, .int 0]))] := hD
  have hK : va_K (dC, dI) vwCl [] s := hK
  have hw : r2 = (-1) := hw
  subst hw
  refine lv_istore_n (lv' := [(2, .int (-1)), (1, .int (-1)), (0, .ref a0)]) hx hb dX3_opens_14 rfl hl (by decide) rfl (fun ls hl => ?_)
  refine lv_aload_n hx hb dX3_opens_15 rfl (lv_at hl 2 rfl) ?_
  have hPc := hP.sub (ws' := [(a0, .inr (3, [.ref b2, .ref t1, .ref t2, .ref t3, .int 0])), (b2, .inr (0, [.ref yb, .int 0]))]) [0, 1] rfl
  have hDc := hD.sub (ws' := [(a0, .inr (3, [.ref b2, .ref t1, .ref t2, .ref t3, .int 0])), (b2, .inr (0, [.ref yb, .int 0]))]) [0, 1] (by decide) rfl
  have hKc := hK.sub (tys' := []) [] rfl
  have hFc := va_free (wc := [(a0, .inr (3, [.ref b2, .ref t1, .ref t2, .ref t3, .int 0])), (b2, .inr (0, [.ref yb, .int 0]))]) hD hS hA [0, 1] rfl
  refine va_calli (va_runV (As := []) (rest := []) ⟨hx, hb, hml, hown, hts⟩ (c_X3_closer l dC dI H.size a0 b2 t1 t2 t3 yb) (cwV 0 hts gg_RX3_58 rfl rfl rfl (by decide +kernel) ⟨Nat.le_of_ble_eq_true rfl, Nat.le_of_ble_eq_true rfl⟩) ⟨fun a U g mk q => by obtain ⟨q0, q1, qP, qK, qD⟩ := q; exact ⟨q0, q1, qP, va_K.moved (u := U) (U := U.calling g mk a) (Vm.Alike.refl U.vm) qK, qD⟩, va_recv hK hP (ci := 3) (q0 := 0) rfl rfl, fun U hU hW => ⟨rfl, by rw [hU], by rw [hU]; exact hPc, va_K.moved hW.alike hKc, hDc.weaken (fun _ _ _ _ => trivial)⟩⟩ rfl rfl hl.1 rfl (lv_room (Nat.le_of_ble_eq_true rfl)) dX3_opens_16 ⟨Nat.le_of_ble_eq_true rfl, Nat.le_of_ble_eq_true rfl⟩) hS (fun q _ h => hFc q h) hFc (fun r3 u t H1 locs ht hvm hw hB hz1 hk1 hS => ?_)
  obtain ⟨hP1, hK1, hD1⟩ := hB
  rw [ht] at hP1
  have hK1 := va_K.moved hvm.symm hK1
  obtain ⟨hP, hD⟩ := va_join (wr := []) (w1 := [(a0, .inr (3, [.ref b2, .ref t1, .ref t2, .ref t3, .int 0])), (b2, .inr (0, [.ref yb, .int 0]))]) hP hD [0, 1] [] rfl rfl (by decide) (by decide) hk1 hFc hP1 hD1
  have hK := (hK.sub (tys' := []) [] rfl).app hK1
  generalize H1 = H at hP hS ⊢
  have hP : va_P (dC, dI) vwCl [(a0, .inr (3, [.ref b2, .ref t1, .ref t2, .ref t3, .int 0])), (b2, .inr (0, [.ref yb, .int 0]))] H := hP
  have hD : va_D A [(a0, .inr (3, [.ref b2, .ref t1, .ref t2, .ref t3, .int 0])), (b2, .inr (0, [.ref yb, .int 0]))] := hD
  have hK : va_K (dC, dI) vwCl [] s := hK
  have hw : r3 = (-1) := hw
  subst hw
  refine lv_istore_n (lv' := [(3, .int (-1)), (2, .int (-1)), (1, .int (-1)), (0, .ref a0)]) hx hb dX3_opens_19 rfl hl (by decide) rfl (fun ls hl => ?_)
  refine lv_aload_n hx hb dX3_opens_20 rfl (lv_at hl 3 rfl) ?_
  refine va_get (D := (dC, dI)) (ci := 3) (v := .ref b2) (C := RX3) (T := TX3) (N := 5) hx hb hts inAll_3 hown hK hP 0 rfl rfl 0 (by decide) (hts (.fieldLink RX3 14 "LoopEnvelopes$Segments" "bytes" "LLoopEnvelopes$Bytes;") k_23) (fun _ h9 => h9) rfl dX3_opens_21 ?_
  have hPc := hP.sub (ws' := [(b2, .inr (0, [.ref yb, .int 0]))]) [1] rfl
  have hDc := hD.sub (ws' := [(b2, .inr (0, [.ref yb, .int 0]))]) [1] (by decide) rfl
  have hKc := hK.sub (tys' := []) [] rfl
  have hFc := va_free (wc := [(b2, .inr (0, [.ref yb, .int 0]))]) hD hS hA [1] rfl
  refine va_calli (va_runV (As := []) (rest := []) ⟨hx, hb, hml, hown, hts⟩ (c_X0_length l dC dI H.size b2 yb 0) (cwV 0 hts gg_RX3_43 rfl rfl rfl (by decide +kernel) ⟨Nat.le_of_ble_eq_true rfl, Nat.le_of_ble_eq_true rfl⟩) ⟨fun a U g mk q => by obtain ⟨q0, q1, qP, qK, qD⟩ := q; exact ⟨q0, q1, qP, va_K.moved (u := U) (U := U.calling g mk a) (Vm.Alike.refl U.vm) qK, qD⟩, va_recv hK hP (ci := 0) (q0 := 1) rfl rfl, fun U hU hW => ⟨rfl, by rw [hU], by rw [hU]; exact hPc, va_K.moved hW.alike hKc, hDc.weaken (fun _ _ _ _ => trivial)⟩⟩ rfl rfl hl.1 rfl (lv_room (Nat.le_of_ble_eq_true rfl)) dX3_opens_24 ⟨Nat.le_of_ble_eq_true rfl, Nat.le_of_ble_eq_true rfl⟩) hS (fun q _ h => hFc q h) hFc (fun r4 u t H1 locs ht hvm hw hB hz1 hk1 hS => ?_)
  obtain ⟨hP1, hK1, hD1⟩ := hB
  rw [ht] at hP1
  have hK1 := va_K.moved hvm.symm hK1
  obtain ⟨hP, hD⟩ := va_join (wr := [(a0, .inr (3, [.ref b2, .ref t1, .ref t2, .ref t3, .int 0]))]) (w1 := [(b2, .inr (0, [.ref yb, .int 0]))]) hP hD [1] [0] rfl rfl (by decide) (by decide) hk1 hFc hP1 hD1
  have hK := (hK.sub (tys' := []) [] rfl).app hK1
  generalize H1 = H at hP hS ⊢
  have hP : va_P (dC, dI) vwCl [(a0, .inr (3, [.ref b2, .ref t1, .ref t2, .ref t3, .int 0])), (b2, .inr (0, [.ref yb, .int 0]))] H := hP
  have hD : va_D A [(a0, .inr (3, [.ref b2, .ref t1, .ref t2, .ref t3, .int 0])), (b2, .inr (0, [.ref yb, .int 0]))] := hD
  have hK : va_K (dC, dI) vwCl [] s := hK
  have hw : r4 = 0 := hw
  subst hw
  refine lv_bipush (v := 16) hx hb dX3_opens_27 (by decide) ?_
  refine lv_icmp_lt (tgt := 132) hx hb dX3_opens_29 (by decide) (fun c_29 => ?_) (fun c_29 => absurd (by decide) c_29)
  refine lv_iconst (v := 0) hx hb dX3_opens_132 (by decide) ?_
  have hP9 := hP.sub (ws' := [(a0, .inr (3, [.ref b2, .ref t1, .ref t2, .ref t3, .int 0])), (b2, .inr (0, [.ref yb, .int 0]))]) [0, 1] rfl
  have hD9 := hD.sub (ws' := [(a0, .inr (3, [.ref b2, .ref t1, .ref t2, .ref t3, .int 0])), (b2, .inr (0, [.ref yb, .int 0]))]) [0, 1] (by decide) rfl
  have hK9 := hK.sub (tys' := []) [] rfl
  exact W.zret (v := 0) hx hb hr rfl (fun t ht hW => ⟨⟨0, (), rfl, rfl, by rw [ht]; exact hP9, va_K.moved hW.alike hK9, hD9⟩, hS.F ht⟩) hS.2.2 dX3_opens_133

set_option maxHeartbeats 4000000 in
set_option maxRecDepth 100000 in
/-- clear() -/
theorem c_X1_clear (l : Launch) (dC : Nat → ClassId) (dI : Nat → Nat → Nat) (sz : Nat) (a0 : Nat) (h1 : Nat) (h2 : Nat) (h3 : Nat) : Met l yX1_clear pwX1_clear ({ frames := 0, cells := 0, slots := 0, locals := 0 } : Room) (va_Pc [.ref a0] (fun U => U.heap.size = sz ∧ va_P (dC, dI) vwCl [(a0, .inr (1, [.ref h1, .ref h2, .ref h3, .int 0, .int 0, .int 0]))] U.heap ∧ va_K (dC, dI) vwCl [] U ∧ va_D (fun _ => True) [(a0, .inr (1, [.ref h1, .ref h2, .ref h3, .int 0, .int 0, .int 0]))])) (va_Qv (fun _ : Unit => True) (fun (_ : Unit) (t : State) => va_P (dC, dI) vwCl [(a0, .inr (1, [.ref h1, .ref h2, .ref h3, .int 0, .int 0, .int 0]))] t.heap ∧ va_K (dC, dI) vwCl [] t ∧ va_D (va_A [(a0, .inr (1, [.ref h1, .ref h2, .ref h3, .int 0, .int 0, .int 0]))] sz) [(a0, .inr (1, [.ref h1, .ref h2, .ref h3, .int 0, .int 0, .int 0]))]) (va_A [(a0, .inr (1, [.ref h1, .ref h2, .ref h3, .int 0, .int 0, .int 0]))] sz)) 0 0 (va_A [(a0, .inr (1, [.ref h1, .ref h2, .ref h3, .int 0, .int 0, .int 0]))] sz) := by
  refine Met.ofW (cc := cX1_clear) (maxL := 1) (ret := none) (by decide) rfl ?_
  intro p e s m args below meth c s₁ B hml hv
  obtain ⟨rfl, hsz, hP, hK, hD0⟩ := hv
  have hx := B.exec
  have hb := B.bytes
  have hr := B.returns
  have hts0 := atoms_spec (ws := pwX1_clear) B.pre
  have hts := fun w (h : w ∈ pwAll) => hts0 w (List.mem_cons_of_mem _ h)
  have hown : s.vm.findClass RX1 = some m.cls := findClass_of_methodNamed B.named
  have hlocks := B.notSynchronized
  subst hsz
  have hD := hD0.self (sz := s.heap.size)
  generalize hAe : va_A [(a0, .inr (1, [.ref h1, .ref h2, .ref h3, .int 0, .int 0, .int 0]))] s.heap.size = A at hD ⊢
  have hA : ∀ q : Nat, s.heap.size ≤ q → A q := fun q h => by rw [← hAe]; exact Or.inr h
  have hS : va_S A s.heap s.heap [] := va_S.rf
  have hP : va_P (dC, dI) vwCl [(a0, .inr (1, [.ref h1, .ref h2, .ref h3, .int 0, .int 0, .int 0]))] s.heap := hP
  have hl := lv_entry ([.ref a0]) (n := 1) (Nat.le_of_ble_eq_true rfl)
  rw [lg_entry_eq]
  generalize (lg_sl ([.ref a0]) ++ List.replicate (1 - (lg_sl ([.ref a0])).length) Slot.unset).toArray = ls at hl ⊢
  have hl : lv_has ls 1 [(0, .ref a0)] := hl
  refine lv_aload_n hx hb dX1_clear_0 rfl (lv_at hl 0 rfl) ?_
  refine lv_iconst (v := 0) hx hb dX1_clear_1 (by decide) ?_
  refine va_put (D := (dC, dI)) (ci := 1) (v := .int 0) (ty := .int) (C := RX1) (T := TX1) (N := 6) hx hb hts inAll_1 tyX1 tyX1_ok nmX1 hown hK hP hD hS 0 rfl rfl 3 (by decide) (hts (.fieldLink RX1 27 "LoopEnvelopes$Frames" "groupsHeld" "I") k_40) (fun _ h9 => h9) rfl (by decide +kernel) rfl rfl (Nat.le_of_ble_eq_true rfl) dX1_clear_2 (fun H locs hP hD hS => ?_)
  have hP : va_P (dC, dI) vwCl [(a0, .inr (1, [.ref h1, .ref h2, .ref h3, .int 0, .int 0, .int 0]))] H := hP
  have hD : va_D A [(a0, .inr (1, [.ref h1, .ref h2, .ref h3, .int 0, .int 0, .int 0]))] := hD
  refine lv_aload_n hx hb dX1_clear_5 rfl (lv_at hl 0 rfl) ?_
  refine lv_iconst (v := 0) hx hb dX1_clear_6 (by decide) ?_
  refine va_put (D := (dC, dI)) (ci := 1) (v := .int 0) (ty := .int) (C := RX1) (T := TX1) (N := 6) hx hb hts inAll_1 tyX1 tyX1_ok nmX1 hown hK hP hD hS 0 rfl rfl 4 (by decide) (hts (.fieldLink RX1 31 "LoopEnvelopes$Frames" "setsHeld" "I") k_41) (fun _ h9 => h9) rfl (by decide +kernel) rfl rfl (Nat.le_of_ble_eq_true rfl) dX1_clear_7 (fun H locs hP hD hS => ?_)
  have hP : va_P (dC, dI) vwCl [(a0, .inr (1, [.ref h1, .ref h2, .ref h3, .int 0, .int 0, .int 0]))] H := hP
  have hD : va_D A [(a0, .inr (1, [.ref h1, .ref h2, .ref h3, .int 0, .int 0, .int 0]))] := hD
  refine lv_aload_n hx hb dX1_clear_10 rfl (lv_at hl 0 rfl) ?_
  refine lv_iconst (v := 0) hx hb dX1_clear_11 (by decide) ?_
  refine va_put (D := (dC, dI)) (ci := 1) (v := .int 0) (ty := .int) (C := RX1) (T := TX1) (N := 6) hx hb hts inAll_1 tyX1 tyX1_ok nmX1 hown hK hP hD hS 0 rfl rfl 5 (by decide) (hts (.fieldLink RX1 34 "LoopEnvelopes$Frames" "stage" "I") k_42) (fun _ h9 => h9) rfl (by decide +kernel) rfl rfl (Nat.le_of_ble_eq_true rfl) dX1_clear_12 (fun H locs hP hD hS => ?_)
  have hP : va_P (dC, dI) vwCl [(a0, .inr (1, [.ref h1, .ref h2, .ref h3, .int 0, .int 0, .int 0]))] H := hP
  have hD : va_D A [(a0, .inr (1, [.ref h1, .ref h2, .ref h3, .int 0, .int 0, .int 0]))] := hD
  have hP9 := hP.sub (ws' := [(a0, .inr (1, [.ref h1, .ref h2, .ref h3, .int 0, .int 0, .int 0]))]) [0] rfl
  have hD9 := hD.sub (ws' := [(a0, .inr (1, [.ref h1, .ref h2, .ref h3, .int 0, .int 0, .int 0]))]) [0] (by decide) rfl
  have hK9 := hK.sub (tys' := []) [] rfl
  exact W.vret hx hb hr (fun t ht hW => ⟨⟨(), rfl, trivial, by rw [ht]; exact hP9, va_K.moved hW.alike hK9, hD9⟩, hS.F ht⟩) hS.2.2 dX1_clear_15

set_option maxHeartbeats 4000000 in
set_option maxRecDepth 100000 in
/-- tell(finding, at) -/
theorem c_X6_tell (l : Launch) (dC : Nat → ClassId) (dI : Nat → Nat → Nat) (sz : Nat) (a0 : Nat) (a1 : Nat) (a2 : Nat) (a3 : Nat) (a4 : Nat) (a5 : Nat) (fi : Int32) (pl : Int32) : Met l yX6_tell pwX6_tell ({ frames := 0, cells := 0, slots := 0, locals := 0 } : Room) (va_Pc [.ref a0, .int fi, .int pl] (fun U => U.heap.size = sz ∧ va_P (dC, dI) vwCl [(a0, .inr (6, [.ref a1, .ref a2, .ref a3, .ref a4, .ref a5, .int (-1), .int 0]))] U.heap ∧ va_K (dC, dI) vwCl [] U ∧ va_D (fun _ => True) [(a0, .inr (6, [.ref a1, .ref a2, .ref a3, .ref a4, .ref a5, .int (-1), .int 0]))])) (va_Qi (fun (r : Int32) (_ : Unit) => r = fi) (fun (_ : Unit) (t : State) => va_P (dC, dI) vwCl [(a0, .inr (6, [.ref a1, .ref a2, .ref a3, .ref a4, .ref a5, .int pl, .int 0]))] t.heap ∧ va_K (dC, dI) vwCl [] t ∧ va_D (va_A [(a0, .inr (6, [.ref a1, .ref a2, .ref a3, .ref a4, .ref a5, .int (-1), .int 0]))] sz) [(a0, .inr (6, [.ref a1, .ref a2, .ref a3, .ref a4, .ref a5, .int pl, .int 0]))]) (va_A [(a0, .inr (6, [.ref a1, .ref a2, .ref a3, .ref a4, .ref a5, .int (-1), .int 0]))] sz)) 0 0 (va_A [(a0, .inr (6, [.ref a1, .ref a2, .ref a3, .ref a4, .ref a5, .int (-1), .int 0]))] sz) := by
  refine Met.ofW (cc := cX6_tell) (maxL := 3) (ret := (some .int)) (by decide) rfl ?_
  intro p e s m args below meth c s₁ B hml hv
  obtain ⟨rfl, hsz, hP, hK, hD0⟩ := hv
  have hx := B.exec
  have hb := B.bytes
  have hr := B.returns
  have hts0 := atoms_spec (ws := pwX6_tell) B.pre
  have hts := fun w (h : w ∈ pwAll) => hts0 w (List.mem_cons_of_mem _ h)
  have hown : s.vm.findClass RX6 = some m.cls := findClass_of_methodNamed B.named
  have hlocks := B.notSynchronized
  subst hsz
  have hD := hD0.self (sz := s.heap.size)
  generalize hAe : va_A [(a0, .inr (6, [.ref a1, .ref a2, .ref a3, .ref a4, .ref a5, .int (-1), .int 0]))] s.heap.size = A at hD ⊢
  have hA : ∀ q : Nat, s.heap.size ≤ q → A q := fun q h => by rw [← hAe]; exact Or.inr h
  have hS : va_S A s.heap s.heap [] := va_S.rf
  have hP : va_P (dC, dI) vwCl [(a0, .inr (6, [.ref a1, .ref a2, .ref a3, .ref a4, .ref a5, .int (-1), .int 0]))] s.heap := hP
  have hl := lv_entry ([.ref a0, .int fi, .int pl]) (n := 3) (Nat.le_of_ble_eq_true rfl)
  rw [lg_entry_eq]
  generalize (lg_sl ([.ref a0, .int fi, .int pl]) ++ List.replicate (3 - (lg_sl ([.ref a0, .int fi, .int pl])).length) Slot.unset).toArray = ls at hl ⊢
  have hl : lv_has ls 3 [(0, .ref a0), (1, .int fi), (2, .int pl)] := hl
  refine lv_aload_n hx hb dX6_tell_0 rfl (lv_at hl 0 rfl) ?_
  refine lv_iload_n hx hb dX6_tell_1 rfl (lv_at hl 2 rfl) ?_
  refine va_put (D := (dC, dI)) (ci := 6) (v := .int pl) (ty := .int) (C := RX6) (T := TX6) (N := 7) hx hb hts inAll_6 tyX6 tyX6_ok nmX6 hown hK hP hD hS 0 rfl rfl 5 (by decide) (hts (.fieldLink RX6 50 "LoopEnvelopes" "place" "I") k_89) (fun _ h9 => h9) rfl (by decide +kernel) rfl rfl (Nat.le_of_ble_eq_true rfl) dX6_tell_2 (fun H locs hP hD hS => ?_)
  have hP : va_P (dC, dI) vwCl [(a0, .inr (6, [.ref a1, .ref a2, .ref a3, .ref a4, .ref a5, .int pl, .int 0]))] H := hP
  have hD : va_D A [(a0, .inr (6, [.ref a1, .ref a2, .ref a3, .ref a4, .ref a5, .int pl, .int 0]))] := hD
  refine lv_iload_n hx hb dX6_tell_5 rfl (lv_at hl 1 rfl) ?_
  have hP9 := hP.sub (ws' := [(a0, .inr (6, [.ref a1, .ref a2, .ref a3, .ref a4, .ref a5, .int pl, .int 0]))]) [0] rfl
  have hD9 := hD.sub (ws' := [(a0, .inr (6, [.ref a1, .ref a2, .ref a3, .ref a4, .ref a5, .int pl, .int 0]))]) [0] (by decide) rfl
  have hK9 := hK.sub (tys' := []) [] rfl
  exact W.iret (v := fi) hx hb hr (fun t ht hW => ⟨⟨fi, (), rfl, rfl, by rw [ht]; exact hP9, va_K.moved hW.alike hK9, hD9⟩, hS.F ht⟩) hS.2.2 dX6_tell_6

set_option maxHeartbeats 4000000 in
set_option maxRecDepth 100000 in
theorem c_X5_at (l : Launch) (dC : Nat → ClassId) (dI : Nat → Nat → Nat) (sz : Nat) (a0 : Nat) (h4 : Nat) (b5 : Nat) (yc : Nat) (ix : Int32) : Met l yX5_at pwX5_at ({ frames := 1, cells := 0, slots := 0, locals := 21 } : Room) (va_Pc [.ref a0, .int ix] (fun U => U.heap.size = sz ∧ va_P (dC, dI) vwCl [(a0, .inr (5, [.ref h4, .ref b5, .int 0])), (b5, .inr (0, [.ref yc, .int 0]))] U.heap ∧ va_K (dC, dI) vwCl [] U ∧ va_D (fun _ => True) [(a0, .inr (5, [.ref h4, .ref b5, .int 0])), (b5, .inr (0, [.ref yc, .int 0]))])) (va_Qi (fun (r : Int32) (_ : Unit) => r = (-1)) (fun (_ : Unit) (t : State) => va_P (dC, dI) vwCl [(a0, .inr (5, [.ref h4, .ref b5, .int 0])), (b5, .inr (0, [.ref yc, .int 0]))] t.heap ∧ va_K (dC, dI) vwCl [] t ∧ va_D (va_A [(a0, .inr (5, [.ref h4, .ref b5, .int 0])), (b5, .inr (0, [.ref yc, .int 0]))] sz) [(a0, .inr (5, [.ref h4, .ref b5, .int 0])), (b5, .inr (0, [.ref yc, .int 0]))]) (va_A [(a0, .inr (5, [.ref h4, .ref b5, .int 0])), (b5, .inr (0, [.ref yc, .int 0]))] sz)) 0 0 (va_A [(a0, .inr (5, [.ref h4, .ref b5, .int 0])), (b5, .inr (0, [.ref yc, .int 0]))] sz) := by
  refine Met.ofW (cc := cX5_at) (maxL := 2) (ret := (some .int)) (by decide) rfl ?_
  intro p e s m args below meth c s₁ B hml hv
  obtain ⟨rfl, hsz, hP, hK, hD0⟩ := hv
  have hx := B.exec
  have hb := B.bytes
  have hr := B.returns
  have hts0 := atoms_spec (ws := pwX5_at) B.pre
  have hts := fun w (h : w ∈ pwAll) => hts0 w (List.mem_cons_of_mem _ h)
  have hown : s.vm.findClass RX5 = some m.cls := findClass_of_methodNamed B.named
  have hlocks := B.notSynchronized
  subst hsz
  have hD := hD0.self (sz := s.heap.size)
  generalize hAe : va_A [(a0, .inr (5, [.ref h4, .ref b5, .int 0])), (b5, .inr (0, [.ref yc, .int 0]))] s.heap.size = A at hD ⊢
  have hA : ∀ q : Nat, s.heap.size ≤ q → A q := fun q h => by rw [← hAe]; exact Or.inr h
  have hS : va_S A s.heap s.heap [] := va_S.rf
  have hP : va_P (dC, dI) vwCl [(a0, .inr (5, [.ref h4, .ref b5, .int 0])), (b5, .inr (0, [.ref yc, .int 0]))] s.heap := hP
  have hl := lv_entry ([.ref a0, .int ix]) (n := 2) (Nat.le_of_ble_eq_true rfl)
  rw [lg_entry_eq]
  generalize (lg_sl ([.ref a0, .int ix]) ++ List.replicate (2 - (lg_sl ([.ref a0, .int ix])).length) Slot.unset).toArray = ls at hl ⊢
  have hl : lv_has ls 2 [(0, .ref a0), (1, .int ix)] := hl
  refine lv_aload_n hx hb dX5_at_0 rfl (lv_at hl 0 rfl) ?_
  refine va_get (D := (dC, dI)) (ci := 5) (v := .ref b5) (C := RX5) (T := TX5) (N := 3) hx hb hts inAll_5 hown hK hP 0 rfl rfl 1 (by decide) (hts (.fieldLink RX5 20 "LoopEnvelopes$Writer" "bytes" "LLoopEnvelopes$Bytes;") k_55) (fun _ h9 => h9) rfl dX5_at_1 ?_
  refine lv_iload_n hx hb dX5_at_4 rfl (lv_at hl 1 rfl) ?_
  have hPc := hP.sub (ws' := [(b5, .inr (0, [.ref yc, .int 0]))]) [1] rfl
  have hDc := hD.sub (ws' := [(b5, .inr (0, [.ref yc, .int 0]))]) [1] (by decide) rfl
  have hKc := hK.sub (tys' := []) [] rfl
  have hFc := va_free (wc := [(b5, .inr (0, [.ref yc, .int 0]))]) hD hS hA [1] rfl
  refine va_calli (va_runV (As := [.int ix]) (rest := []) ⟨hx, hb, hml, hown, hts⟩ (c_X0_at0 l dC dI s.heap.size b5 yc ix) (cwV 1 hts gg_RX5_32 rfl rfl rfl (by decide +kernel) ⟨Nat.le_of_ble_eq_true rfl, Nat.le_of_ble_eq_true rfl⟩) ⟨fun a U g mk q => by obtain ⟨q0, q1, qP, qK, qD⟩ := q; exact ⟨q0, q1, qP, va_K.moved (u := U) (U := U.calling g mk a) (Vm.Alike.refl U.vm) qK, qD⟩, va_recv hK hP (ci := 0) (q0 := 1) rfl rfl, fun U hU hW => ⟨rfl, by rw [hU], by rw [hU]; exact hPc, va_K.moved hW.alike hKc, hDc.weaken (fun _ _ _ _ => trivial)⟩⟩ rfl rfl hl.1 rfl (lv_room (Nat.le_of_ble_eq_true rfl)) dX5_at_5 ⟨Nat.le_of_ble_eq_true rfl, Nat.le_of_ble_eq_true rfl⟩) hS (fun q _ h => hFc q h) hFc (fun r1 u t H1 locs ht hvm hw hB hz1 hk1 hS => ?_)
  obtain ⟨hP1, hK1, hD1⟩ := hB
  rw [ht] at hP1
  have hK1 := va_K.moved hvm.symm hK1
  obtain ⟨hP, hD⟩ := va_join (wr := [(a0, .inr (5, [.ref h4, .ref b5, .int 0]))]) (w1 := [(b5, .inr (0, [.ref yc, .int 0]))]) hP hD [1] [0] rfl rfl (by decide) (by decide) hk1 hFc hP1 hD1
  have hK := (hK.sub (tys' := []) [] rfl).app hK1
  generalize H1 = H at hP hS ⊢
  have hP : va_P (dC, dI) vwCl [(a0, .inr (5, [.ref h4, .ref b5, .int 0])), (b5, .inr (0, [.ref yc, .int 0]))] H := hP
  have hD : va_D A [(a0, .inr (5, [.ref h4, .ref b5, .int 0])), (b5, .inr (0, [.ref yc, .int 0]))] := hD
  have hK : va_K (dC, dI) vwCl [] s := hK
  have hw : r1 = (-1) := hw
  subst hw
  have hP9 := hP.sub (ws' := [(a0, .inr (5, [.ref h4, .ref b5, .int 0])), (b5, .inr (0, [.ref yc, .int 0]))]) [0, 1] rfl
  have hD9 := hD.sub (ws' := [(a0, .inr (5, [.ref h4, .ref b5, .int 0])), (b5, .inr (0, [.ref yc, .int 0]))]) [0, 1] (by decide) rfl
  have hK9 := hK.sub (tys' := []) [] rfl
  exact W.iret (v := (-1)) hx hb hr (fun t ht hW => ⟨⟨(-1), (), rfl, rfl, by rw [ht]; exact hP9, va_K.moved hW.alike hK9, hD9⟩, hS.F ht⟩) hS.2.2 dX5_at_8

set_option maxHeartbeats 4000000 in
set_option maxRecDepth 100000 in
theorem c_X5_length (l : Launch) (dC : Nat → ClassId) (dI : Nat → Nat → Nat) (sz : Nat) (a0 : Nat) (h4 : Nat) (b5 : Nat) (yc : Nat) : Met l yX5_length pwX5_length ({ frames := 1, cells := 0, slots := 0, locals := 20 } : Room) (va_Pc [.ref a0] (fun U => U.heap.size = sz ∧ va_P (dC, dI) vwCl [(a0, .inr (5, [.ref h4, .ref b5, .int 0])), (b5, .inr (0, [.ref yc, .int 0]))] U.heap ∧ va_K (dC, dI) vwCl [] U ∧ va_D (fun _ => True) [(a0, .inr (5, [.ref h4, .ref b5, .int 0])), (b5, .inr (0, [.ref yc, .int 0]))])) (va_Qi (fun (r : Int32) (_ : Unit) => r = 0) (fun (_ : Unit) (t : State) => va_P (dC, dI) vwCl [(a0, .inr (5, [.ref h4, .ref b5, .int 0])), (b5, .inr (0, [.ref yc, .int 0]))] t.heap ∧ va_K (dC, dI) vwCl [] t ∧ va_D (va_A [(a0, .inr (5, [.ref h4, .ref b5, .int 0])), (b5, .inr (0, [.ref yc, .int 0]))] sz) [(a0, .inr (5, [.ref h4, .ref b5, .int 0])), (b5, .inr (0, [.ref yc, .int 0]))]) (va_A [(a0, .inr (5, [.ref h4, .ref b5, .int 0])), (b5, .inr (0, [.ref yc, .int 0]))] sz)) 0 0 (va_A [(a0, .inr (5, [.ref h4, .ref b5, .int 0])), (b5, .inr (0, [.ref yc, .int 0]))] sz) := by
  refine Met.ofW (cc := cX5_length) (maxL := 1) (ret := (some .int)) (by decide) rfl ?_
  intro p e s m args below meth c s₁ B hml hv
  obtain ⟨rfl, hsz, hP, hK, hD0⟩ := hv
  have hx := B.exec
  have hb := B.bytes
  have hr := B.returns
  have hts0 := atoms_spec (ws := pwX5_length) B.pre
  have hts := fun w (h : w ∈ pwAll) => hts0 w (List.mem_cons_of_mem _ h)
  have hown : s.vm.findClass RX5 = some m.cls := findClass_of_methodNamed B.named
  have hlocks := B.notSynchronized
  subst hsz
  have hD := hD0.self (sz := s.heap.size)
  generalize hAe : va_A [(a0, .inr (5, [.ref h4, .ref b5, .int 0])), (b5, .inr (0, [.ref yc, .int 0]))] s.heap.size = A at hD ⊢
  have hA : ∀ q : Nat, s.heap.size ≤ q → A q := fun q h => by rw [← hAe]; exact Or.inr h
  have hS : va_S A s.heap s.heap [] := va_S.rf
  have hP : va_P (dC, dI) vwCl [(a0, .inr (5, [.ref h4, .ref b5, .int 0])), (b5, .inr (0, [.ref yc, .int 0]))] s.heap := hP
  have hl := lv_entry ([.ref a0]) (n := 1) (Nat.le_of_ble_eq_true rfl)
  rw [lg_entry_eq]
  generalize (lg_sl ([.ref a0]) ++ List.replicate (1 - (lg_sl ([.ref a0])).length) Slot.unset).toArray = ls at hl ⊢
  have hl : lv_has ls 1 [(0, .ref a0)] := hl
  refine lv_aload_n hx hb dX5_length_0 rfl (lv_at hl 0 rfl) ?_
  refine va_get (D := (dC, dI)) (ci := 5) (v := .ref b5) (C := RX5) (T := TX5) (N := 3) hx hb hts inAll_5 hown hK hP 0 rfl rfl 1 (by decide) (hts (.fieldLink RX5 20 "LoopEnvelopes$Writer" "bytes" "LLoopEnvelopes$Bytes;") k_55) (fun _ h9 => h9) rfl dX5_length_1 ?_
  have hPc := hP.sub (ws' := [(b5, .inr (0, [.ref yc, .int 0]))]) [1] rfl
  have hDc := hD.sub (ws' := [(b5, .inr (0, [.ref yc, .int 0]))]) [1] (by decide) rfl
  have hKc := hK.sub (tys' := []) [] rfl
  have hFc := va_free (wc := [(b5, .inr (0, [.ref yc, .int 0]))]) hD hS hA [1] rfl
  refine va_calli (va_runV (As := []) (rest := []) ⟨hx, hb, hml, hown, hts⟩ (c_X0_length l dC dI s.heap.size b5 yc 0) (cwV 0 hts gg_RX5_28 rfl rfl rfl (by decide +kernel) ⟨Nat.le_of_ble_eq_true rfl, Nat.le_of_ble_eq_true rfl⟩) ⟨fun a U g mk q => by obtain ⟨q0, q1, qP, qK, qD⟩ := q; exact ⟨q0, q1, qP, va_K.moved (u := U) (U := U.calling g mk a) (Vm.Alike.refl U.vm) qK, qD⟩, va_recv hK hP (ci := 0) (q0 := 1) rfl rfl, fun U hU hW => ⟨rfl, by rw [hU], by rw [hU]; exact hPc, va_K.moved hW.alike hKc, hDc.weaken (fun _ _ _ _ => trivial)⟩⟩ rfl rfl hl.1 rfl (lv_room (Nat.le_of_ble_eq_true rfl)) dX5_length_4 ⟨Nat.le_of_ble_eq_true rfl, Nat.le_of_ble_eq_true rfl⟩) hS (fun q _ h => hFc q h) hFc (fun r1 u t H1 locs ht hvm hw hB hz1 hk1 hS => ?_)
  obtain ⟨hP1, hK1, hD1⟩ := hB
  rw [ht] at hP1
  have hK1 := va_K.moved hvm.symm hK1
  obtain ⟨hP, hD⟩ := va_join (wr := [(a0, .inr (5, [.ref h4, .ref b5, .int 0]))]) (w1 := [(b5, .inr (0, [.ref yc, .int 0]))]) hP hD [1] [0] rfl rfl (by decide) (by decide) hk1 hFc hP1 hD1
  have hK := (hK.sub (tys' := []) [] rfl).app hK1
  generalize H1 = H at hP hS ⊢
  have hP : va_P (dC, dI) vwCl [(a0, .inr (5, [.ref h4, .ref b5, .int 0])), (b5, .inr (0, [.ref yc, .int 0]))] H := hP
  have hD : va_D A [(a0, .inr (5, [.ref h4, .ref b5, .int 0])), (b5, .inr (0, [.ref yc, .int 0]))] := hD
  have hK : va_K (dC, dI) vwCl [] s := hK
  have hw : r1 = 0 := hw
  subst hw
  have hP9 := hP.sub (ws' := [(a0, .inr (5, [.ref h4, .ref b5, .int 0])), (b5, .inr (0, [.ref yc, .int 0]))]) [0, 1] rfl
  have hD9 := hD.sub (ws' := [(a0, .inr (5, [.ref h4, .ref b5, .int 0])), (b5, .inr (0, [.ref yc, .int 0]))]) [0, 1] (by decide) rfl
  have hK9 := hK.sub (tys' := []) [] rfl
  exact W.iret (v := 0) hx hb hr (fun t ht hW => ⟨⟨0, (), rfl, rfl, by rw [ht]; exact hP9, va_K.moved hW.alike hK9, hD9⟩, hS.F ht⟩) hS.2.2 dX5_length_7
end
section
set_option maxHeartbeats 4000000 in
set_option maxRecDepth 100000 in
theorem c_X6_group (l : Launch) (dC : Nat → ClassId) (dI : Nat → Nat → Nat) (sz : Nat) (a0 : Nat) (a1 : Nat) (a2 : Nat) (a3 : Nat) (a4 : Nat) (a5 : Nat) (k0 : Int32) (k1 : Int32) : Met l yX6_group pwX6_group ({ frames := 0, cells := 0, slots := 0, locals := 0 } : Room) (va_Pc [.ref a0, .int k0, .int k1] (fun U => U.heap.size = sz ∧ va_P (dC, dI) vwCl [(a0, .inr (6, [.ref a1, .ref a2, .ref a3, .ref a4, .ref a5, .int (-1), .int 0]))] U.heap ∧ va_K (dC, dI) vwCl [] U ∧ va_D (fun _ => True) [(a0, .inr (6, [.ref a1, .ref a2, .ref a3, .ref a4, .ref a5, .int (-1), .int 0]))])) (va_Qi (fun (r : Int32) (_ : Unit) => r = (-4)) (fun (_ : Unit) (t : State) => va_P (dC, dI) vwCl [] t.heap ∧ va_K (dC, dI) vwCl [] t ∧ va_D (va_A [(a0, .inr (6, [.ref a1, .ref a2, .ref a3, .ref a4, .ref a5, .int (-1), .int 0]))] sz) []) (va_A [(a0, .inr (6, [.ref a1, .ref a2, .ref a3, .ref a4, .ref a5, .int (-1), .int 0]))] sz)) 0 0 (va_A [(a0, .inr (6, [.ref a1, .ref a2, .ref a3, .ref a4, .ref a5, .int (-1), .int 0]))] sz) := by
  refine Met.ofW (cc := cX6_group) (maxL := 3) (ret := (some .int)) (by decide) rfl ?_
  intro p e s m args below meth c s₁ B hml hv
  obtain ⟨rfl, hsz, hP, hK, hD0⟩ := hv
  have hx := B.exec
  have hb := B.bytes
  have hr := B.returns
  have hts0 := atoms_spec (ws := pwX6_group) B.pre
  have hts := fun w (h : w ∈ pwAll) => hts0 w (List.mem_cons_of_mem _ h)
  have hown : s.vm.findClass RX6 = some m.cls := findClass_of_methodNamed B.named
  have hlocks := B.notSynchronized
  subst hsz
  have hD := hD0.self (sz := s.heap.size)
  generalize hAe : va_A [(a0, .inr (6, [.ref a1, .ref a2, .ref a3, .ref a4, .ref a5, .int (-1), .int 0]))] s.heap.size = A at hD ⊢
  have hA : ∀ q : Nat, s.heap.size ≤ q → A q := fun q h => by rw [← hAe]; exact Or.inr h
  have hS : va_S A s.heap s.heap [] := va_S.rf
  have hP : va_P (dC, dI) vwCl [(a0, .inr (6, [.ref a1, .ref a2, .ref a3, .ref a4, .ref a5, .int (-1), .int 0]))] s.heap := hP
  have hl := lv_entry ([.ref a0, .int k0, .int k1]) (n := 3) (Nat.le_of_ble_eq_true rfl)
  rw [lg_entry_eq]
  generalize (lg_sl ([.ref a0, .int k0, .int k1]) ++ List.replicate (3 - (lg_sl ([.ref a0, .int k0, .int k1])).length) Slot.unset).toArray = ls at hl ⊢
  have hl : lv_has ls 3 [(0, .ref a0), (1, .int k0), (2, .int k1)] := hl
  refine lv_aload_n hx hb dX6_group_0 rfl (lv_at hl 0 rfl) ?_
  refine va_get (D := (dC, dI)) (ci := 6) (v := .int 0) (C := RX6) (T := TX6) (N := 7) hx hb hts inAll_6 hown hK hP 0 rfl rfl 6 (by decide) (hts (.fieldLink RX6 54 "LoopEnvelopes" "taken" "Z") k_90) (fun _ h9 => h9) rfl dX6_group_1 ?_
  refine lv_if_ne (tgt := 10) hx hb dX6_group_4 (by decide) (fun c_4 => absurd (rfl) c_4) (fun c_4 => ?_)
  refine lv_bipush (v := (-4)) hx hb dX6_group_7 (by decide) ?_
  have hP9 := hP.sub (ws' := []) [] rfl
  have hD9 := hD.sub (ws' := []) [] (by decide) rfl
  have hK9 := hK.sub (tys' := []) [] rfl
  exact W.iret (v := (-4)) hx hb hr (fun t ht hW => ⟨⟨(-4), (), rfl, rfl, by rw [ht]; exact hP9, va_K.moved hW.alike hK9, hD9⟩, hS.F ht⟩) hS.2.2 dX6_group_9

set_option maxHeartbeats 4000000 in
set_option maxRecDepth 100000 in
theorem c_X6_setOf (l : Launch) (dC : Nat → ClassId) (dI : Nat → Nat → Nat) (sz : Nat) (a0 : Nat) (a1 : Nat) (a2 : Nat) (a3 : Nat) (a4 : Nat) (a5 : Nat) (k0 : Int32) (k1 : Int32) : Met l yX6_setOf pwX6_setOf ({ frames := 0, cells := 0, slots := 0, locals := 0 } : Room) (va_Pc [.ref a0, .int k0, .int k1] (fun U => U.heap.size = sz ∧ va_P (dC, dI) vwCl [(a0, .inr (6, [.ref a1, .ref a2, .ref a3, .ref a4, .ref a5, .int (-1), .int 0]))] U.heap ∧ va_K (dC, dI) vwCl [] U ∧ va_D (fun _ => True) [(a0, .inr (6, [.ref a1, .ref a2, .ref a3, .ref a4, .ref a5, .int (-1), .int 0]))])) (va_Qi (fun (r : Int32) (_ : Unit) => r = (-4)) (fun (_ : Unit) (t : State) => va_P (dC, dI) vwCl [] t.heap ∧ va_K (dC, dI) vwCl [] t ∧ va_D (va_A [(a0, .inr (6, [.ref a1, .ref a2, .ref a3, .ref a4, .ref a5, .int (-1), .int 0]))] sz) []) (va_A [(a0, .inr (6, [.ref a1, .ref a2, .ref a3, .ref a4, .ref a5, .int (-1), .int 0]))] sz)) 0 0 (va_A [(a0, .inr (6, [.ref a1, .ref a2, .ref a3, .ref a4, .ref a5, .int (-1), .int 0]))] sz) := by
  refine Met.ofW (cc := cX6_setOf) (maxL := 3) (ret := (some .int)) (by decide) rfl ?_
  intro p e s m args below meth c s₁ B hml hv
  obtain ⟨rfl, hsz, hP, hK, hD0⟩ := hv
  have hx := B.exec
  have hb := B.bytes
  have hr := B.returns
  have hts0 := atoms_spec (ws := pwX6_setOf) B.pre
  have hts := fun w (h : w ∈ pwAll) => hts0 w (List.mem_cons_of_mem _ h)
  have hown : s.vm.findClass RX6 = some m.cls := findClass_of_methodNamed B.named
  have hlocks := B.notSynchronized
  subst hsz
  have hD := hD0.self (sz := s.heap.size)
  generalize hAe : va_A [(a0, .inr (6, [.ref a1, .ref a2, .ref a3, .ref a4, .ref a5, .int (-1), .int 0]))] s.heap.size = A at hD ⊢
  have hA : ∀ q : Nat, s.heap.size ≤ q → A q := fun q h => by rw [← hAe]; exact Or.inr h
  have hS : va_S A s.heap s.heap [] := va_S.rf
  have hP : va_P (dC, dI) vwCl [(a0, .inr (6, [.ref a1, .ref a2, .ref a3, .ref a4, .ref a5, .int (-1), .int 0]))] s.heap := hP
  have hl := lv_entry ([.ref a0, .int k0, .int k1]) (n := 3) (Nat.le_of_ble_eq_true rfl)
  rw [lg_entry_eq]
  generalize (lg_sl ([.ref a0, .int k0, .int k1]) ++ List.replicate (3 - (lg_sl ([.ref a0, .int k0, .int k1])).length) Slot.unset).toArray = ls at hl ⊢
  have hl : lv_has ls 3 [(0, .ref a0), (1, .int k0), (2, .int k1)] := hl
  refine lv_aload_n hx hb dX6_setOf_0 rfl (lv_at hl 0 rfl) ?_
  refine va_get (D := (dC, dI)) (ci := 6) (v := .int 0) (C := RX6) (T := TX6) (N := 7) hx hb hts inAll_6 hown hK hP 0 rfl rfl 6 (by decide) (hts (.fieldLink RX6 54 "LoopEnvelopes" "taken" "Z") k_90) (fun _ h9 => h9) rfl dX6_setOf_1 ?_
  refine lv_if_ne (tgt := 10) hx hb dX6_setOf_4 (by decide) (fun c_4 => absurd (rfl) c_4) (fun c_4 => ?_)
  refine lv_bipush (v := (-4)) hx hb dX6_setOf_7 (by decide) ?_
  have hP9 := hP.sub (ws' := []) [] rfl
  have hD9 := hD.sub (ws' := []) [] (by decide) rfl
  have hK9 := hK.sub (tys' := []) [] rfl
  exact W.iret (v := (-4)) hx hb hr (fun t ht hW => ⟨⟨(-4), (), rfl, rfl, by rw [ht]; exact hP9, va_K.moved hW.alike hK9, hD9⟩, hS.F ht⟩) hS.2.2 dX6_setOf_9

set_option maxHeartbeats 4000000 in
set_option maxRecDepth 100000 in
theorem c_X6_fault (l : Launch) (dC : Nat → ClassId) (dI : Nat → Nat → Nat) (sz : Nat) (a0 : Nat) (a1 : Nat) (a2 : Nat) (a3 : Nat) (a4 : Nat) (a5 : Nat) (k0 : Int32) (k1 : Int32) (k2 : Int32) : Met l yX6_fault pwX6_fault ({ frames := 0, cells := 0, slots := 0, locals := 0 } : Room) (va_Pc [.ref a0, .int k0, .int k1, .int k2] (fun U => U.heap.size = sz ∧ va_P (dC, dI) vwCl [(a0, .inr (6, [.ref a1, .ref a2, .ref a3, .ref a4, .ref a5, .int (-1), .int 0]))] U.heap ∧ va_K (dC, dI) vwCl [] U ∧ va_D (fun _ => True) [(a0, .inr (6, [.ref a1, .ref a2, .ref a3, .ref a4, .ref a5, .int (-1), .int 0]))])) (va_Qi (fun (r : Int32) (_ : Unit) => r = (-4)) (fun (_ : Unit) (t : State) => va_P (dC, dI) vwCl [] t.heap ∧ va_K (dC, dI) vwCl [] t ∧ va_D (va_A [(a0, .inr (6, [.ref a1, .ref a2, .ref a3, .ref a4, .ref a5, .int (-1), .int 0]))] sz) []) (va_A [(a0, .inr (6, [.ref a1, .ref a2, .ref a3, .ref a4, .ref a5, .int (-1), .int 0]))] sz)) 0 0 (va_A [(a0, .inr (6, [.ref a1, .ref a2, .ref a3, .ref a4, .ref a5, .int (-1), .int 0]))] sz) := by
  refine Met.ofW (cc := cX6_fault) (maxL := 5) (ret := (some .int)) (by decide) rfl ?_
  intro p e s m args below meth c s₁ B hml hv
  obtain ⟨rfl, hsz, hP, hK, hD0⟩ := hv
  have hx := B.exec
  have hb := B.bytes
  have hr := B.returns
  have hts0 := atoms_spec (ws := pwX6_fault) B.pre
  have hts := fun w (h : w ∈ pwAll) => hts0 w (List.mem_cons_of_mem _ h)
  have hown : s.vm.findClass RX6 = some m.cls := findClass_of_methodNamed B.named
  have hlocks := B.notSynchronized
  subst hsz
  have hD := hD0.self (sz := s.heap.size)
  generalize hAe : va_A [(a0, .inr (6, [.ref a1, .ref a2, .ref a3, .ref a4, .ref a5, .int (-1), .int 0]))] s.heap.size = A at hD ⊢
  have hA : ∀ q : Nat, s.heap.size ≤ q → A q := fun q h => by rw [← hAe]; exact Or.inr h
  have hS : va_S A s.heap s.heap [] := va_S.rf
  have hP : va_P (dC, dI) vwCl [(a0, .inr (6, [.ref a1, .ref a2, .ref a3, .ref a4, .ref a5, .int (-1), .int 0]))] s.heap := hP
  have hl := lv_entry ([.ref a0, .int k0, .int k1, .int k2]) (n := 5) (Nat.le_of_ble_eq_true rfl)
  rw [lg_entry_eq]
  generalize (lg_sl ([.ref a0, .int k0, .int k1, .int k2]) ++ List.replicate (5 - (lg_sl ([.ref a0, .int k0, .int k1, .int k2])).length) Slot.unset).toArray = ls at hl ⊢
  have hl : lv_has ls 5 [(0, .ref a0), (1, .int k0), (2, .int k1), (3, .int k2)] := hl
  refine lv_aload_n hx hb dX6_fault_0 rfl (lv_at hl 0 rfl) ?_
  refine va_get (D := (dC, dI)) (ci := 6) (v := .int 0) (C := RX6) (T := TX6) (N := 7) hx hb hts inAll_6 hown hK hP 0 rfl rfl 6 (by decide) (hts (.fieldLink RX6 54 "LoopEnvelopes" "taken" "Z") k_90) (fun _ h9 => h9) rfl dX6_fault_1 ?_
  refine lv_if_ne (tgt := 10) hx hb dX6_fault_4 (by decide) (fun c_4 => absurd (rfl) c_4) (fun c_4 => ?_)
  refine lv_bipush (v := (-4)) hx hb dX6_fault_7 (by decide) ?_
  have hP9 := hP.sub (ws' := []) [] rfl
  have hD9 := hD.sub (ws' := []) [] (by decide) rfl
  have hK9 := hK.sub (tys' := []) [] rfl
  exact W.iret (v := (-4)) hx hb hr (fun t ht hW => ⟨⟨(-4), (), rfl, rfl, by rw [ht]; exact hP9, va_K.moved hW.alike hK9, hD9⟩, hS.F ht⟩) hS.2.2 dX6_fault_9

set_option maxHeartbeats 4000000 in
set_option maxRecDepth 100000 in
theorem c_X6_level (l : Launch) (dC : Nat → ClassId) (dI : Nat → Nat → Nat) (sz : Nat) (a0 : Nat) (a1 : Nat) (a2 : Nat) (a3 : Nat) (a4 : Nat) (a5 : Nat) (k0 : Int32) (k1 : Int32) (k2 : Int32) : Met l yX6_level pwX6_level ({ frames := 0, cells := 0, slots := 0, locals := 0 } : Room) (va_Pc [.ref a0, .int k0, .int k1, .int k2] (fun U => U.heap.size = sz ∧ va_P (dC, dI) vwCl [(a0, .inr (6, [.ref a1, .ref a2, .ref a3, .ref a4, .ref a5, .int (-1), .int 0]))] U.heap ∧ va_K (dC, dI) vwCl [] U ∧ va_D (fun _ => True) [(a0, .inr (6, [.ref a1, .ref a2, .ref a3, .ref a4, .ref a5, .int (-1), .int 0]))])) (va_Qi (fun (r : Int32) (_ : Unit) => r = (-4)) (fun (_ : Unit) (t : State) => va_P (dC, dI) vwCl [] t.heap ∧ va_K (dC, dI) vwCl [] t ∧ va_D (va_A [(a0, .inr (6, [.ref a1, .ref a2, .ref a3, .ref a4, .ref a5, .int (-1), .int 0]))] sz) []) (va_A [(a0, .inr (6, [.ref a1, .ref a2, .ref a3, .ref a4, .ref a5, .int (-1), .int 0]))] sz)) 0 0 (va_A [(a0, .inr (6, [.ref a1, .ref a2, .ref a3, .ref a4, .ref a5, .int (-1), .int 0]))] sz) := by
  refine Met.ofW (cc := cX6_level) (maxL := 5) (ret := (some .int)) (by decide) rfl ?_
  intro p e s m args below meth c s₁ B hml hv
  obtain ⟨rfl, hsz, hP, hK, hD0⟩ := hv
  have hx := B.exec
  have hb := B.bytes
  have hr := B.returns
  have hts0 := atoms_spec (ws := pwX6_level) B.pre
  have hts := fun w (h : w ∈ pwAll) => hts0 w (List.mem_cons_of_mem _ h)
  have hown : s.vm.findClass RX6 = some m.cls := findClass_of_methodNamed B.named
  have hlocks := B.notSynchronized
  subst hsz
  have hD := hD0.self (sz := s.heap.size)
  generalize hAe : va_A [(a0, .inr (6, [.ref a1, .ref a2, .ref a3, .ref a4, .ref a5, .int (-1), .int 0]))] s.heap.size = A at hD ⊢
  have hA : ∀ q : Nat, s.heap.size ≤ q → A q := fun q h => by rw [← hAe]; exact Or.inr h
  have hS : va_S A s.heap s.heap [] := va_S.rf
  have hP : va_P (dC, dI) vwCl [(a0, .inr (6, [.ref a1, .ref a2, .ref a3, .ref a4, .ref a5, .int (-1), .int 0]))] s.heap := hP
  have hl := lv_entry ([.ref a0, .int k0, .int k1, .int k2]) (n := 5) (Nat.le_of_ble_eq_true rfl)
  rw [lg_entry_eq]
  generalize (lg_sl ([.ref a0, .int k0, .int k1, .int k2]) ++ List.replicate (5 - (lg_sl ([.ref a0, .int k0, .int k1, .int k2])).length) Slot.unset).toArray = ls at hl ⊢
  have hl : lv_has ls 5 [(0, .ref a0), (1, .int k0), (2, .int k1), (3, .int k2)] := hl
  refine lv_aload_n hx hb dX6_level_0 rfl (lv_at hl 0 rfl) ?_
  refine va_get (D := (dC, dI)) (ci := 6) (v := .int 0) (C := RX6) (T := TX6) (N := 7) hx hb hts inAll_6 hown hK hP 0 rfl rfl 6 (by decide) (hts (.fieldLink RX6 54 "LoopEnvelopes" "taken" "Z") k_90) (fun _ h9 => h9) rfl dX6_level_1 ?_
  refine lv_if_ne (tgt := 10) hx hb dX6_level_4 (by decide) (fun c_4 => absurd (rfl) c_4) (fun c_4 => ?_)
  refine lv_bipush (v := (-4)) hx hb dX6_level_7 (by decide) ?_
  have hP9 := hP.sub (ws' := []) [] rfl
  have hD9 := hD.sub (ws' := []) [] (by decide) rfl
  have hK9 := hK.sub (tys' := []) [] rfl
  exact W.iret (v := (-4)) hx hb hr (fun t ht hW => ⟨⟨(-4), (), rfl, rfl, by rw [ht]; exact hP9, va_K.moved hW.alike hK9, hD9⟩, hS.F ht⟩) hS.2.2 dX6_level_9

set_option maxHeartbeats 4000000 in
set_option maxRecDepth 100000 in
theorem c_X6_claim (l : Launch) (dC : Nat → ClassId) (dI : Nat → Nat → Nat) (sz : Nat) (a0 : Nat) (a1 : Nat) (a2 : Nat) (a3 : Nat) (a4 : Nat) (a5 : Nat) (k0 : Int32) (k1 : Int32) (k2 : Int32) : Met l yX6_claim pwX6_claim ({ frames := 0, cells := 0, slots := 0, locals := 0 } : Room) (va_Pc [.ref a0, .int k0, .int k1, .int k2] (fun U => U.heap.size = sz ∧ va_P (dC, dI) vwCl [(a0, .inr (6, [.ref a1, .ref a2, .ref a3, .ref a4, .ref a5, .int (-1), .int 0]))] U.heap ∧ va_K (dC, dI) vwCl [] U ∧ va_D (fun _ => True) [(a0, .inr (6, [.ref a1, .ref a2, .ref a3, .ref a4, .ref a5, .int (-1), .int 0]))])) (va_Qi (fun (r : Int32) (_ : Unit) => r = (-4)) (fun (_ : Unit) (t : State) => va_P (dC, dI) vwCl [] t.heap ∧ va_K (dC, dI) vwCl [] t ∧ va_D (va_A [(a0, .inr (6, [.ref a1, .ref a2, .ref a3, .ref a4, .ref a5, .int (-1), .int 0]))] sz) []) (va_A [(a0, .inr (6, [.ref a1, .ref a2, .ref a3, .ref a4, .ref a5, .int (-1), .int 0]))] sz)) 0 0 (va_A [(a0, .inr (6, [.ref a1, .ref a2, .ref a3, .ref a4, .ref a5, .int (-1), .int 0]))] sz) := by
  refine Met.ofW (cc := cX6_claim) (maxL := 6) (ret := (some .int)) (by decide) rfl ?_
  intro p e s m args below meth c s₁ B hml hv
  obtain ⟨rfl, hsz, hP, hK, hD0⟩ := hv
  have hx := B.exec
  have hb := B.bytes
  have hr := B.returns
  have hts0 := atoms_spec (ws := pwX6_claim) B.pre
  have hts := fun w (h : w ∈ pwAll) => hts0 w (List.mem_cons_of_mem _ h)
  have hown : s.vm.findClass RX6 = some m.cls := findClass_of_methodNamed B.named
  have hlocks := B.notSynchronized
  subst hsz
  have hD := hD0.self (sz := s.heap.size)
  generalize hAe : va_A [(a0, .inr (6, [.ref a1, .ref a2, .ref a3, .ref a4, .ref a5, .int (-1), .int 0]))] s.heap.size = A at hD ⊢
  have hA : ∀ q : Nat, s.heap.size ≤ q → A q := fun q h => by rw [← hAe]; exact Or.inr h
  have hS : va_S A s.heap s.heap [] := va_S.rf
  have hP : va_P (dC, dI) vwCl [(a0, .inr (6, [.ref a1, .ref a2, .ref a3, .ref a4, .ref a5, .int (-1), .int 0]))] s.heap := hP
  have hl := lv_entry ([.ref a0, .int k0, .int k1, .int k2]) (n := 6) (Nat.le_of_ble_eq_true rfl)
  rw [lg_entry_eq]
  generalize (lg_sl ([.ref a0, .int k0, .int k1, .int k2]) ++ List.replicate (6 - (lg_sl ([.ref a0, .int k0, .int k1, .int k2])).length) Slot.unset).toArray = ls at hl ⊢
  have hl : lv_has ls 6 [(0, .ref a0), (1, .int k0), (2, .int k1), (3, .int k2)] := hl
  refine lv_aload_n hx hb dX6_claim_0 rfl (lv_at hl 0 rfl) ?_
  refine va_get (D := (dC, dI)) (ci := 6) (v := .int 0) (C := RX6) (T := TX6) (N := 7) hx hb hts inAll_6 hown hK hP 0 rfl rfl 6 (by decide) (hts (.fieldLink RX6 54 "LoopEnvelopes" "taken" "Z") k_90) (fun _ h9 => h9) rfl dX6_claim_1 ?_
  refine lv_if_ne (tgt := 10) hx hb dX6_claim_4 (by decide) (fun c_4 => absurd (rfl) c_4) (fun c_4 => ?_)
  refine lv_bipush (v := (-4)) hx hb dX6_claim_7 (by decide) ?_
  have hP9 := hP.sub (ws' := []) [] rfl
  have hD9 := hD.sub (ws' := []) [] (by decide) rfl
  have hK9 := hK.sub (tys' := []) [] rfl
  exact W.iret (v := (-4)) hx hb hr (fun t ht hW => ⟨⟨(-4), (), rfl, rfl, by rw [ht]; exact hP9, va_K.moved hW.alike hK9, hD9⟩, hS.F ht⟩) hS.2.2 dX6_claim_9

set_option maxHeartbeats 4000000 in
set_option maxRecDepth 100000 in
theorem c_X6_size (l : Launch) (dC : Nat → ClassId) (dI : Nat → Nat → Nat) (sz : Nat) (a0 : Nat) (a1 : Nat) (a2 : Nat) (a3 : Nat) (a4 : Nat) (a5 : Nat) (k0 : Int32) (k1 : Int32) : Met l yX6_size pwX6_size ({ frames := 0, cells := 0, slots := 0, locals := 0 } : Room) (va_Pc [.ref a0, .int k0, .int k1] (fun U => U.heap.size = sz ∧ va_P (dC, dI) vwCl [(a0, .inr (6, [.ref a1, .ref a2, .ref a3, .ref a4, .ref a5, .int (-1), .int 0]))] U.heap ∧ va_K (dC, dI) vwCl [] U ∧ va_D (fun _ => True) [(a0, .inr (6, [.ref a1, .ref a2, .ref a3, .ref a4, .ref a5, .int (-1), .int 0]))])) (va_Qi (fun (r : Int32) (_ : Unit) => r = (-4)) (fun (_ : Unit) (t : State) => va_P (dC, dI) vwCl [] t.heap ∧ va_K (dC, dI) vwCl [] t ∧ va_D (va_A [(a0, .inr (6, [.ref a1, .ref a2, .ref a3, .ref a4, .ref a5, .int (-1), .int 0]))] sz) []) (va_A [(a0, .inr (6, [.ref a1, .ref a2, .ref a3, .ref a4, .ref a5, .int (-1), .int 0]))] sz)) 0 0 (va_A [(a0, .inr (6, [.ref a1, .ref a2, .ref a3, .ref a4, .ref a5, .int (-1), .int 0]))] sz) := by
  refine Met.ofW (cc := cX6_size) (maxL := 3) (ret := (some .int)) (by decide) rfl ?_
  intro p e s m args below meth c s₁ B hml hv
  obtain ⟨rfl, hsz, hP, hK, hD0⟩ := hv
  have hx := B.exec
  have hb := B.bytes
  have hr := B.returns
  have hts0 := atoms_spec (ws := pwX6_size) B.pre
  have hts := fun w (h : w ∈ pwAll) => hts0 w (List.mem_cons_of_mem _ h)
  have hown : s.vm.findClass RX6 = some m.cls := findClass_of_methodNamed B.named
  have hlocks := B.notSynchronized
  subst hsz
  have hD := hD0.self (sz := s.heap.size)
  generalize hAe : va_A [(a0, .inr (6, [.ref a1, .ref a2, .ref a3, .ref a4, .ref a5, .int (-1), .int 0]))] s.heap.size = A at hD ⊢
  have hA : ∀ q : Nat, s.heap.size ≤ q → A q := fun q h => by rw [← hAe]; exact Or.inr h
  have hS : va_S A s.heap s.heap [] := va_S.rf
  have hP : va_P (dC, dI) vwCl [(a0, .inr (6, [.ref a1, .ref a2, .ref a3, .ref a4, .ref a5, .int (-1), .int 0]))] s.heap := hP
  have hl := lv_entry ([.ref a0, .int k0, .int k1]) (n := 3) (Nat.le_of_ble_eq_true rfl)
  rw [lg_entry_eq]
  generalize (lg_sl ([.ref a0, .int k0, .int k1]) ++ List.replicate (3 - (lg_sl ([.ref a0, .int k0, .int k1])).length) Slot.unset).toArray = ls at hl ⊢
  have hl : lv_has ls 3 [(0, .ref a0), (1, .int k0), (2, .int k1)] := hl
  refine lv_aload_n hx hb dX6_size_0 rfl (lv_at hl 0 rfl) ?_
  refine va_get (D := (dC, dI)) (ci := 6) (v := .int 0) (C := RX6) (T := TX6) (N := 7) hx hb hts inAll_6 hown hK hP 0 rfl rfl 6 (by decide) (hts (.fieldLink RX6 54 "LoopEnvelopes" "taken" "Z") k_90) (fun _ h9 => h9) rfl dX6_size_1 ?_
  refine lv_if_ne (tgt := 10) hx hb dX6_size_4 (by decide) (fun c_4 => absurd (rfl) c_4) (fun c_4 => ?_)
  refine lv_bipush (v := (-4)) hx hb dX6_size_7 (by decide) ?_
  have hP9 := hP.sub (ws' := []) [] rfl
  have hD9 := hD.sub (ws' := []) [] (by decide) rfl
  have hK9 := hK.sub (tys' := []) [] rfl
  exact W.iret (v := (-4)) hx hb hr (fun t ht hW => ⟨⟨(-4), (), rfl, rfl, by rw [ht]; exact hP9, va_K.moved hW.alike hK9, hD9⟩, hS.F ht⟩) hS.2.2 dX6_size_9

set_option maxHeartbeats 4000000 in
set_option maxRecDepth 100000 in
theorem c_X6_byteOf (l : Launch) (dC : Nat → ClassId) (dI : Nat → Nat → Nat) (sz : Nat) (a0 : Nat) (a1 : Nat) (a2 : Nat) (a3 : Nat) (a4 : Nat) (a5 : Nat) (k0 : Int32) (k1 : Int32) (k2 : Int32) : Met l yX6_byteOf pwX6_byteOf ({ frames := 0, cells := 0, slots := 0, locals := 0 } : Room) (va_Pc [.ref a0, .int k0, .int k1, .int k2] (fun U => U.heap.size = sz ∧ va_P (dC, dI) vwCl [(a0, .inr (6, [.ref a1, .ref a2, .ref a3, .ref a4, .ref a5, .int (-1), .int 0]))] U.heap ∧ va_K (dC, dI) vwCl [] U ∧ va_D (fun _ => True) [(a0, .inr (6, [.ref a1, .ref a2, .ref a3, .ref a4, .ref a5, .int (-1), .int 0]))])) (va_Qi (fun (r : Int32) (_ : Unit) => r = (-4)) (fun (_ : Unit) (t : State) => va_P (dC, dI) vwCl [] t.heap ∧ va_K (dC, dI) vwCl [] t ∧ va_D (va_A [(a0, .inr (6, [.ref a1, .ref a2, .ref a3, .ref a4, .ref a5, .int (-1), .int 0]))] sz) []) (va_A [(a0, .inr (6, [.ref a1, .ref a2, .ref a3, .ref a4, .ref a5, .int (-1), .int 0]))] sz)) 0 0 (va_A [(a0, .inr (6, [.ref a1, .ref a2, .ref a3, .ref a4, .ref a5, .int (-1), .int 0]))] sz) := by
  refine Met.ofW (cc := cX6_byteOf) (maxL := 5) (ret := (some .int)) (by decide) rfl ?_
  intro p e s m args below meth c s₁ B hml hv
  obtain ⟨rfl, hsz, hP, hK, hD0⟩ := hv
  have hx := B.exec
  have hb := B.bytes
  have hr := B.returns
  have hts0 := atoms_spec (ws := pwX6_byteOf) B.pre
  have hts := fun w (h : w ∈ pwAll) => hts0 w (List.mem_cons_of_mem _ h)
  have hown : s.vm.findClass RX6 = some m.cls := findClass_of_methodNamed B.named
  have hlocks := B.notSynchronized
  subst hsz
  have hD := hD0.self (sz := s.heap.size)
  generalize hAe : va_A [(a0, .inr (6, [.ref a1, .ref a2, .ref a3, .ref a4, .ref a5, .int (-1), .int 0]))] s.heap.size = A at hD ⊢
  have hA : ∀ q : Nat, s.heap.size ≤ q → A q := fun q h => by rw [← hAe]; exact Or.inr h
  have hS : va_S A s.heap s.heap [] := va_S.rf
  have hP : va_P (dC, dI) vwCl [(a0, .inr (6, [.ref a1, .ref a2, .ref a3, .ref a4, .ref a5, .int (-1), .int 0]))] s.heap := hP
  have hl := lv_entry ([.ref a0, .int k0, .int k1, .int k2]) (n := 5) (Nat.le_of_ble_eq_true rfl)
  rw [lg_entry_eq]
  generalize (lg_sl ([.ref a0, .int k0, .int k1, .int k2]) ++ List.replicate (5 - (lg_sl ([.ref a0, .int k0, .int k1, .int k2])).length) Slot.unset).toArray = ls at hl ⊢
  have hl : lv_has ls 5 [(0, .ref a0), (1, .int k0), (2, .int k1), (3, .int k2)] := hl
  refine lv_aload_n hx hb dX6_byteOf_0 rfl (lv_at hl 0 rfl) ?_
  refine va_get (D := (dC, dI)) (ci := 6) (v := .int 0) (C := RX6) (T := TX6) (N := 7) hx hb hts inAll_6 hown hK hP 0 rfl rfl 6 (by decide) (hts (.fieldLink RX6 54 "LoopEnvelopes" "taken" "Z") k_90) (fun _ h9 => h9) rfl dX6_byteOf_1 ?_
  refine lv_if_ne (tgt := 10) hx hb dX6_byteOf_4 (by decide) (fun c_4 => absurd (rfl) c_4) (fun c_4 => ?_)
  refine lv_bipush (v := (-4)) hx hb dX6_byteOf_7 (by decide) ?_
  have hP9 := hP.sub (ws' := []) [] rfl
  have hD9 := hD.sub (ws' := []) [] (by decide) rfl
  have hK9 := hK.sub (tys' := []) [] rfl
  exact W.iret (v := (-4)) hx hb hr (fun t ht hW => ⟨⟨(-4), (), rfl, rfl, by rw [ht]; exact hP9, va_K.moved hW.alike hK9, hD9⟩, hS.F ht⟩) hS.2.2 dX6_byteOf_9

set_option maxHeartbeats 4000000 in
set_option maxRecDepth 100000 in
theorem c_X6_answer (l : Launch) (dC : Nat → ClassId) (dI : Nat → Nat → Nat) (sz : Nat) (a0 : Nat) (a1 : Nat) (a2 : Nat) (a3 : Nat) (a4 : Nat) (a5 : Nat) : Met l yX6_answer pwX6_answer ({ frames := 0, cells := 0, slots := 0, locals := 0 } : Room) (va_Pc [.ref a0] (fun U => U.heap.size = sz ∧ va_P (dC, dI) vwCl [(a0, .inr (6, [.ref a1, .ref a2, .ref a3, .ref a4, .ref a5, .int (-1), .int 0]))] U.heap ∧ va_K (dC, dI) vwCl [] U ∧ va_D (fun _ => True) [(a0, .inr (6, [.ref a1, .ref a2, .ref a3, .ref a4, .ref a5, .int (-1), .int 0]))])) (va_Qi (fun (r : Int32) (_ : Unit) => r = (-4)) (fun (_ : Unit) (t : State) => va_P (dC, dI) vwCl [] t.heap ∧ va_K (dC, dI) vwCl [] t ∧ va_D (va_A [(a0, .inr (6, [.ref a1, .ref a2, .ref a3, .ref a4, .ref a5, .int (-1), .int 0]))] sz) []) (va_A [(a0, .inr (6, [.ref a1, .ref a2, .ref a3, .ref a4, .ref a5, .int (-1), .int 0]))] sz)) 0 0 (va_A [(a0, .inr (6, [.ref a1, .ref a2, .ref a3, .ref a4, .ref a5, .int (-1), .int 0]))] sz) := by
  refine Met.ofW (cc := cX6_answer) (maxL := 2) (ret := (some .int)) (by decide) rfl ?_
  intro p e s m args below meth c s₁ B hml hv
  obtain ⟨rfl, hsz, hP, hK, hD0⟩ := hv
  have hx := B.exec
  have hb := B.bytes
  have hr := B.returns
  have hts0 := atoms_spec (ws := pwX6_answer) B.pre
  have hts := fun w (h : w ∈ pwAll) => hts0 w (List.mem_cons_of_mem _ h)
  have hown : s.vm.findClass RX6 = some m.cls := findClass_of_methodNamed B.named
  have hlocks := B.notSynchronized
  subst hsz
  have hD := hD0.self (sz := s.heap.size)
  generalize hAe : va_A [(a0, .inr (6, [.ref a1, .ref a2, .ref a3, .ref a4, .ref a5, .int (-1), .int 0]))] s.heap.size = A at hD ⊢
  have hA : ∀ q : Nat, s.heap.size ≤ q → A q := fun q h => by rw [← hAe]; exact Or.inr h
  have hS : va_S A s.heap s.heap [] := va_S.rf
  have hP : va_P (dC, dI) vwCl [(a0, .inr (6, [.ref a1, .ref a2, .ref a3, .ref a4, .ref a5, .int (-1), .int 0]))] s.heap := hP
  have hl := lv_entry ([.ref a0]) (n := 2) (Nat.le_of_ble_eq_true rfl)
  rw [lg_entry_eq]
  generalize (lg_sl ([.ref a0]) ++ List.replicate (2 - (lg_sl ([.ref a0])).length) Slot.unset).toArray = ls at hl ⊢
  have hl : lv_has ls 2 [(0, .ref a0)] := hl
  refine lv_aload_n hx hb dX6_answer_0 rfl (lv_at hl 0 rfl) ?_
  refine va_get (D := (dC, dI)) (ci := 6) (v := .int 0) (C := RX6) (T := TX6) (N := 7) hx hb hts inAll_6 hown hK hP 0 rfl rfl 6 (by decide) (hts (.fieldLink RX6 54 "LoopEnvelopes" "taken" "Z") k_90) (fun _ h9 => h9) rfl dX6_answer_1 ?_
  refine lv_if_ne (tgt := 10) hx hb dX6_answer_4 (by decide) (fun c_4 => absurd (rfl) c_4) (fun c_4 => ?_)
  refine lv_bipush (v := (-4)) hx hb dX6_answer_7 (by decide) ?_
  have hP9 := hP.sub (ws' := []) [] rfl
  have hD9 := hD.sub (ws' := []) [] (by decide) rfl
  have hK9 := hK.sub (tys' := []) [] rfl
  exact W.iret (v := (-4)) hx hb hr (fun t ht hW => ⟨⟨(-4), (), rfl, rfl, by rw [ht]; exact hP9, va_K.moved hW.alike hK9, hD9⟩, hS.F ht⟩) hS.2.2 dX6_answer_9

set_option maxHeartbeats 4000000 in
set_option maxRecDepth 100000 in
theorem c_X6_where (l : Launch) (dC : Nat → ClassId) (dI : Nat → Nat → Nat) (sz : Nat) (a0 : Nat) (a1 : Nat) (a2 : Nat) (a3 : Nat) (a4 : Nat) (a5 : Nat) : Met l yX6_where pwX6_where ({ frames := 0, cells := 0, slots := 0, locals := 0 } : Room) (va_Pc [.ref a0] (fun U => U.heap.size = sz ∧ va_P (dC, dI) vwCl [(a0, .inr (6, [.ref a1, .ref a2, .ref a3, .ref a4, .ref a5, .int (-1), .int 0]))] U.heap ∧ va_K (dC, dI) vwCl [] U ∧ va_D (fun _ => True) [(a0, .inr (6, [.ref a1, .ref a2, .ref a3, .ref a4, .ref a5, .int (-1), .int 0]))])) (va_Qi (fun (r : Int32) (_ : Unit) => r = (-1)) (fun (_ : Unit) (t : State) => va_P (dC, dI) vwCl [] t.heap ∧ va_K (dC, dI) vwCl [] t ∧ va_D (va_A [(a0, .inr (6, [.ref a1, .ref a2, .ref a3, .ref a4, .ref a5, .int (-1), .int 0]))] sz) []) (va_A [(a0, .inr (6, [.ref a1, .ref a2, .ref a3, .ref a4, .ref a5, .int (-1), .int 0]))] sz)) 0 0 (va_A [(a0, .inr (6, [.ref a1, .ref a2, .ref a3, .ref a4, .ref a5, .int (-1), .int 0]))] sz) := by
  refine Met.ofW (cc := cX6_where) (maxL := 1) (ret := (some .int)) (by decide) rfl ?_
  intro p e s m args below meth c s₁ B hml hv
  obtain ⟨rfl, hsz, hP, hK, hD0⟩ := hv
  have hx := B.exec
  have hb := B.bytes
  have hr := B.returns
  have hts0 := atoms_spec (ws := pwX6_where) B.pre
  have hts := fun w (h : w ∈ pwAll) => hts0 w (List.mem_cons_of_mem _ h)
  have hown : s.vm.findClass RX6 = some m.cls := findClass_of_methodNamed B.named
  have hlocks := B.notSynchronized
  subst hsz
  have hD := hD0.self (sz := s.heap.size)
  generalize hAe : va_A [(a0, .inr (6, [.ref a1, .ref a2, .ref a3, .ref a4, .ref a5, .int (-1), .int 0]))] s.heap.size = A at hD ⊢
  have hA : ∀ q : Nat, s.heap.size ≤ q → A q := fun q h => by rw [← hAe]; exact Or.inr h
  have hS : va_S A s.heap s.heap [] := va_S.rf
  have hP : va_P (dC, dI) vwCl [(a0, .inr (6, [.ref a1, .ref a2, .ref a3, .ref a4, .ref a5, .int (-1), .int 0]))] s.heap := hP
  have hl := lv_entry ([.ref a0]) (n := 1) (Nat.le_of_ble_eq_true rfl)
  rw [lg_entry_eq]
  generalize (lg_sl ([.ref a0]) ++ List.replicate (1 - (lg_sl ([.ref a0])).length) Slot.unset).toArray = ls at hl ⊢
  have hl : lv_has ls 1 [(0, .ref a0)] := hl
  refine lv_aload_n hx hb dX6_where_0 rfl (lv_at hl 0 rfl) ?_
  refine va_get (D := (dC, dI)) (ci := 6) (v := .int (-1)) (C := RX6) (T := TX6) (N := 7) hx hb hts inAll_6 hown hK hP 0 rfl rfl 5 (by decide) (hts (.fieldLink RX6 50 "LoopEnvelopes" "place" "I") k_89) (fun _ h9 => h9) rfl dX6_where_1 ?_
  have hP9 := hP.sub (ws' := []) [] rfl
  have hD9 := hD.sub (ws' := []) [] (by decide) rfl
  have hK9 := hK.sub (tys' := []) [] rfl
  exact W.iret (v := (-1)) hx hb hr (fun t ht hW => ⟨⟨(-1), (), rfl, rfl, by rw [ht]; exact hP9, va_K.moved hW.alike hK9, hD9⟩, hS.F ht⟩) hS.2.2 dX6_where_4

set_option maxHeartbeats 4000000 in
set_option maxRecDepth 100000 in
theorem c_X6_set (l : Launch) (dC : Nat → ClassId) (dI : Nat → Nat → Nat) (sz : Nat) (a0 : Nat) (a1 : Nat) (a2 : Nat) (a3 : Nat) (a4 : Nat) (a5 : Nat) (ya : Nat) (k0 : Int32) (k1 : Int32) : Met l yX6_set pwX6_set ({ frames := 1, cells := 0, slots := 0, locals := 20 } : Room) (va_Pc [.ref a0, .int k0, .int k1] (fun U => U.heap.size = sz ∧ va_P (dC, dI) vwCl [(a0, .inr (6, [.ref a1, .ref a2, .ref a3, .ref a4, .ref a5, .int (-1), .int 0])), (a1, .inr (0, [.ref ya, .int 0]))] U.heap ∧ va_K (dC, dI) vwCl [] U ∧ va_D (fun _ => True) [(a0, .inr (6, [.ref a1, .ref a2, .ref a3, .ref a4, .ref a5, .int (-1), .int 0])), (a1, .inr (0, [.ref ya, .int 0]))])) (va_Qi (fun (r : Int32) (_ : Unit) => r = (-2)) (fun (_ : Unit) (t : State) => va_P (dC, dI) vwCl [] t.heap ∧ va_K (dC, dI) vwCl [] t ∧ va_D (va_A [(a0, .inr (6, [.ref a1, .ref a2, .ref a3, .ref a4, .ref a5, .int (-1), .int 0])), (a1, .inr (0, [.ref ya, .int 0]))] sz) []) (va_A [(a0, .inr (6, [.ref a1, .ref a2, .ref a3, .ref a4, .ref a5, .int (-1), .int 0])), (a1, .inr (0, [.ref ya, .int 0]))] sz)) 0 0 (va_A [(a0, .inr (6, [.ref a1, .ref a2, .ref a3, .ref a4, .ref a5, .int (-1), .int 0])), (a1, .inr (0, [.ref ya, .int 0]))] sz) := by
  refine Met.ofW (cc := cX6_set) (maxL := 4) (ret := (some .int)) (by decide) rfl ?_
  intro p e s m args below meth c s₁ B hml hv
  obtain ⟨rfl, hsz, hP, hK, hD0⟩ := hv
  have hx := B.exec
  have hb := B.bytes
  have hr := B.returns
  have hts0 := atoms_spec (ws := pwX6_set) B.pre
  have hts := fun w (h : w ∈ pwAll) => hts0 w (List.mem_cons_of_mem _ h)
  have hown : s.vm.findClass RX6 = some m.cls := findClass_of_methodNamed B.named
  have hlocks := B.notSynchronized
  subst hsz
  have hD := hD0.self (sz := s.heap.size)
  generalize hAe : va_A [(a0, .inr (6, [.ref a1, .ref a2, .ref a3, .ref a4, .ref a5, .int (-1), .int 0])), (a1, .inr (0, [.ref ya, .int 0]))] s.heap.size = A at hD ⊢
  have hA : ∀ q : Nat, s.heap.size ≤ q → A q := fun q h => by rw [← hAe]; exact Or.inr h
  have hS : va_S A s.heap s.heap [] := va_S.rf
  have hP : va_P (dC, dI) vwCl [(a0, .inr (6, [.ref a1, .ref a2, .ref a3, .ref a4, .ref a5, .int (-1), .int 0])), (a1, .inr (0, [.ref ya, .int 0]))] s.heap := hP
  have hl := lv_entry ([.ref a0, .int k0, .int k1]) (n := 4) (Nat.le_of_ble_eq_true rfl)
  rw [lg_entry_eq]
  generalize (lg_sl ([.ref a0, .int k0, .int k1]) ++ List.replicate (4 - (lg_sl ([.ref a0, .int k0, .int k1])).length) Slot.unset).toArray = ls at hl ⊢
  have hl : lv_has ls 4 [(0, .ref a0), (1, .int k0), (2, .int k1)] := hl
  refine lv_iload_n hx hb dX6_set_0 rfl (lv_at hl 1 rfl) ?_
  refine lv_if_lt (tgt := 15) hx hb dX6_set_1 (by decide) (fun c_1 => ?_) (fun c_1 => ?_)
  · skip
    refine lv_bipush (v := (-2)) hx hb dX6_set_15 (by decide) ?_
    have hP9 := hP.sub (ws' := []) [] rfl
    have hD9 := hD.sub (ws' := []) [] (by decide) rfl
    have hK9 := hK.sub (tys' := []) [] rfl
    exact W.iret (v := (-2)) hx hb hr (fun t ht hW => ⟨⟨(-2), (), rfl, rfl, by rw [ht]; exact hP9, va_K.moved hW.alike hK9, hD9⟩, hS.F ht⟩) hS.2.2 dX6_set_17
  · skip
    refine lv_iload_n hx hb dX6_set_4 rfl (lv_at hl 1 rfl) ?_
    refine lv_aload_n hx hb dX6_set_5 rfl (lv_at hl 0 rfl) ?_
    refine va_get (D := (dC, dI)) (ci := 6) (v := .ref a1) (C := RX6) (T := TX6) (N := 7) hx hb hts inAll_6 hown hK hP 0 rfl rfl 0 (by decide) (hts (.fieldLink RX6 14 "LoopEnvelopes" "text" "LLoopEnvelopes$Bytes;") k_60) (fun _ h9 => h9) rfl dX6_set_6 ?_
    have hPc := hP.sub (ws' := [(a1, .inr (0, [.ref ya, .int 0]))]) [1] rfl
    have hDc := hD.sub (ws' := [(a1, .inr (0, [.ref ya, .int 0]))]) [1] (by decide) rfl
    have hKc := hK.sub (tys' := []) [] rfl
    have hFc := va_free (wc := [(a1, .inr (0, [.ref ya, .int 0]))]) hD hS hA [1] rfl
    refine va_calli (va_runV (As := []) (rest := [.int k0]) ⟨hx, hb, hml, hown, hts⟩ (c_X0_length l dC dI s.heap.size a1 ya 0) (cwV 0 hts gg_RX6_58 rfl rfl rfl (by decide +kernel) ⟨Nat.le_of_ble_eq_true rfl, Nat.le_of_ble_eq_true rfl⟩) ⟨fun a U g mk q => by obtain ⟨q0, q1, qP, qK, qD⟩ := q; exact ⟨q0, q1, qP, va_K.moved (u := U) (U := U.calling g mk a) (Vm.Alike.refl U.vm) qK, qD⟩, va_recv hK hP (ci := 0) (q0 := 1) rfl rfl, fun U hU hW => ⟨rfl, by rw [hU], by rw [hU]; exact hPc, va_K.moved hW.alike hKc, hDc.weaken (fun _ _ _ _ => trivial)⟩⟩ rfl rfl hl.1 rfl (lv_room (Nat.le_of_ble_eq_true rfl)) dX6_set_9 ⟨Nat.le_of_ble_eq_true rfl, Nat.le_of_ble_eq_true rfl⟩) hS (fun q _ h => hFc q h) hFc (fun r1 u t H1 locs ht hvm hw hB hz1 hk1 hS => ?_)
    obtain ⟨hP1, hK1, hD1⟩ := hB
    rw [ht] at hP1
    have hK1 := va_K.moved hvm.symm hK1
    obtain ⟨hP, hD⟩ := va_join (wr := [(a0, .inr (6, [.ref a1, .ref a2, .ref a3, .ref a4, .ref a5, .int (-1), .int 0]))]) (w1 := [(a1, .inr (0, [.ref ya, .int 0]))]) hP hD [1] [0] rfl rfl (by decide) (by decide) hk1 hFc hP1 hD1
    have hK := (hK.sub (tys' := []) [] rfl).app hK1
    generalize H1 = H at hP hS ⊢
    have hP : va_P (dC, dI) vwCl [(a0, .inr (6, [.ref a1, .ref a2, .ref a3, .ref a4, .ref a5, .int (-1), .int 0])), (a1, .inr (0, [.ref ya, .int 0]))] H := hP
    have hD : va_D A [(a0, .inr (6, [.ref a1, .ref a2, .ref a3, .ref a4, .ref a5, .int (-1), .int 0])), (a1, .inr (0, [.ref ya, .int 0]))] := hD
    have hK : va_K (dC, dI) vwCl [] s := hK
    have hw : r1 = 0 := hw
    subst hw
    refine lv_icmp_lt (tgt := 18) hx hb dX6_set_12 (by decide) (fun c_12 => absurd c_12 (c_1)) (fun c_12 => ?_)
    refine lv_bipush (v := (-2)) hx hb dX6_set_15 (by decide) ?_
    have hP9 := hP.sub (ws' := []) [] rfl
    have hD9 := hD.sub (ws' := []) [] (by decide) rfl
    have hK9 := hK.sub (tys' := []) [] rfl
    exact W.iret (v := (-2)) hx hb hr (fun t ht hW => ⟨⟨(-2), (), rfl, rfl, by rw [ht]; exact hP9, va_K.moved hW.alike hK9, hD9⟩, hS.F ht⟩) hS.2.2 dX6_set_17

set_option maxHeartbeats 4000000 in
set_option maxRecDepth 100000 in
theorem c_X6_cut (l : Launch) (dC : Nat → ClassId) (dI : Nat → Nat → Nat) (sz : Nat) (a0 : Nat) (a1 : Nat) (a2 : Nat) (a3 : Nat) (a4 : Nat) (a5 : Nat) (ya : Nat) (k0 : Int32) : Met l yX6_cut pwX6_cut ({ frames := 2, cells := 0, slots := 0, locals := 41 } : Room) (va_Pc [.ref a0, .int k0] (fun U => U.heap.size = sz ∧ va_P (dC, dI) vwCl [(a0, .inr (6, [.ref a1, .ref a2, .ref a3, .ref a4, .ref a5, .int (-1), .int 0])), (a1, .inr (0, [.ref ya, .int 0]))] U.heap ∧ va_K (dC, dI) vwCl [] U ∧ va_D (fun _ => True) [(a0, .inr (6, [.ref a1, .ref a2, .ref a3, .ref a4, .ref a5, .int (-1), .int 0])), (a1, .inr (0, [.ref ya, .int 0]))])) (va_Qi (fun (r : Int32) (_ : Unit) => r = pf_cut k0) (fun (_ : Unit) (t : State) => va_P (dC, dI) vwCl [] t.heap ∧ va_K (dC, dI) vwCl [] t ∧ va_D (va_A [(a0, .inr (6, [.ref a1, .ref a2, .ref a3, .ref a4, .ref a5, .int (-1), .int 0])), (a1, .inr (0, [.ref ya, .int 0]))] sz) []) (va_A [(a0, .inr (6, [.ref a1, .ref a2, .ref a3, .ref a4, .ref a5, .int (-1), .int 0])), (a1, .inr (0, [.ref ya, .int 0]))] sz)) 0 0 (va_A [(a0, .inr (6, [.ref a1, .ref a2, .ref a3, .ref a4, .ref a5, .int (-1), .int 0])), (a1, .inr (0, [.ref ya, .int 0]))] sz) := by
  refine Met.ofW (cc := cX6_cut) (maxL := 3) (ret := (some .int)) (by decide) rfl ?_
  intro p e s m args below meth c s₁ B hml hv
  obtain ⟨rfl, hsz, hP, hK, hD0⟩ := hv
  have hx := B.exec
  have hb := B.bytes
  have hr := B.returns
  have hts0 := atoms_spec (ws := pwX6_cut) B.pre
  have hts := fun w (h : w ∈ pwAll) => hts0 w (List.mem_cons_of_mem _ h)
  have hown : s.vm.findClass RX6 = some m.cls := findClass_of_methodNamed B.named
  have hlocks := B.notSynchronized
  subst hsz
  have hD := hD0.self (sz := s.heap.size)
  generalize hAe : va_A [(a0, .inr (6, [.ref a1, .ref a2, .ref a3, .ref a4, .ref a5, .int (-1), .int 0])), (a1, .inr (0, [.ref ya, .int 0]))] s.heap.size = A at hD ⊢
  have hA : ∀ q : Nat, s.heap.size ≤ q → A q := fun q h => by rw [← hAe]; exact Or.inr h
  have hS : va_S A s.heap s.heap [] := va_S.rf
  have hP : va_P (dC, dI) vwCl [(a0, .inr (6, [.ref a1, .ref a2, .ref a3, .ref a4, .ref a5, .int (-1), .int 0])), (a1, .inr (0, [.ref ya, .int 0]))] s.heap := hP
  have hl := lv_entry ([.ref a0, .int k0]) (n := 3) (Nat.le_of_ble_eq_true rfl)
  rw [lg_entry_eq]
  generalize (lg_sl ([.ref a0, .int k0]) ++ List.replicate (3 - (lg_sl ([.ref a0, .int k0])).length) Slot.unset).toArray = ls at hl ⊢
  have hl : lv_has ls 3 [(0, .ref a0), (1, .int k0)] := hl
  refine lv_iload_n hx hb dX6_cut_0 rfl (lv_at hl 1 rfl) ?_
  refine lv_if_lt (tgt := 15) hx hb dX6_cut_1 (by decide) (fun c_1 => ?_) (fun c_1 => ?_)
  · skip
    refine lv_bipush (v := (-3)) hx hb dX6_cut_15 (by decide) ?_
    have hP9 := hP.sub (ws' := []) [] rfl
    have hD9 := hD.sub (ws' := []) [] (by decide) rfl
    have hK9 := hK.sub (tys' := []) [] rfl
    exact W.iret (v := (-3)) hx hb hr (fun t ht hW => ⟨⟨(-3), (), rfl, by unfold pf_cut; rw [if_pos c_1], by rw [ht]; exact hP9, va_K.moved hW.alike hK9, hD9⟩, hS.F ht⟩) hS.2.2 dX6_cut_17
  · skip
    refine lv_iload_n hx hb dX6_cut_4 rfl (lv_at hl 1 rfl) ?_
    refine lv_aload_n hx hb dX6_cut_5 rfl (lv_at hl 0 rfl) ?_
    refine va_get (D := (dC, dI)) (ci := 6) (v := .ref a1) (C := RX6) (T := TX6) (N := 7) hx hb hts inAll_6 hown hK hP 0 rfl rfl 0 (by decide) (hts (.fieldLink RX6 14 "LoopEnvelopes" "text" "LLoopEnvelopes$Bytes;") k_60) (fun _ h9 => h9) rfl dX6_cut_6 ?_
    have hPc := hP.sub (ws' := [(a1, .inr (0, [.ref ya, .int 0]))]) [1] rfl
    have hDc := hD.sub (ws' := [(a1, .inr (0, [.ref ya, .int 0]))]) [1] (by decide) rfl
    have hKc := hK.sub (tys' := []) [] rfl
    have hFc := va_free (wc := [(a1, .inr (0, [.ref ya, .int 0]))]) hD hS hA [1] rfl
    refine va_calli (va_runV (As := []) (rest := [.int k0]) ⟨hx, hb, hml, hown, hts⟩ (c_X0_length l dC dI s.heap.size a1 ya 0) (cwV 0 hts gg_RX6_58 rfl rfl rfl (by decide +kernel) ⟨Nat.le_of_ble_eq_true rfl, Nat.le_of_ble_eq_true rfl⟩) ⟨fun a U g mk q => by obtain ⟨q0, q1, qP, qK, qD⟩ := q; exact ⟨q0, q1, qP, va_K.moved (u := U) (U := U.calling g mk a) (Vm.Alike.refl U.vm) qK, qD⟩, va_recv hK hP (ci := 0) (q0 := 1) rfl rfl, fun U hU hW => ⟨rfl, by rw [hU], by rw [hU]; exact hPc, va_K.moved hW.alike hKc, hDc.weaken (fun _ _ _ _ => trivial)⟩⟩ rfl rfl hl.1 rfl (lv_room (Nat.le_of_ble_eq_true rfl)) dX6_cut_9 ⟨Nat.le_of_ble_eq_true rfl, Nat.le_of_ble_eq_true rfl⟩) hS (fun q _ h => hFc q h) hFc (fun r1 u t H1 locs ht hvm hw hB hz1 hk1 hS => ?_)
    obtain ⟨hP1, hK1, hD1⟩ := hB
    rw [ht] at hP1
    have hK1 := va_K.moved hvm.symm hK1
    obtain ⟨hP, hD⟩ := va_join (wr := [(a0, .inr (6, [.ref a1, .ref a2, .ref a3, .ref a4, .ref a5, .int (-1), .int 0]))]) (w1 := [(a1, .inr (0, [.ref ya, .int 0]))]) hP hD [1] [0] rfl rfl (by decide) (by decide) hk1 hFc hP1 hD1
    have hK := (hK.sub (tys' := []) [] rfl).app hK1
    generalize H1 = H at hP hS ⊢
    have hP : va_P (dC, dI) vwCl [(a0, .inr (6, [.ref a1, .ref a2, .ref a3, .ref a4, .ref a5, .int (-1), .int 0])), (a1, .inr (0, [.ref ya, .int 0]))] H := hP
    have hD : va_D A [(a0, .inr (6, [.ref a1, .ref a2, .ref a3, .ref a4, .ref a5, .int (-1), .int 0])), (a1, .inr (0, [.ref ya, .int 0]))] := hD
    have hK : va_K (dC, dI) vwCl [] s := hK
    have hw : r1 = 0 := hw
    subst hw
    refine lv_icmp_le (tgt := 18) hx hb dX6_cut_12 (by decide) (fun c_12 => ?_) (fun c_12 => ?_)
    · skip
      refine lv_aload_n hx hb dX6_cut_18 rfl (lv_at hl 0 rfl) ?_
      refine va_get (D := (dC, dI)) (ci := 6) (v := .ref a1) (C := RX6) (T := TX6) (N := 7) hx hb hts inAll_6 hown hK hP 0 rfl rfl 0 (by decide) (hts (.fieldLink RX6 14 "LoopEnvelopes" "text" "LLoopEnvelopes$Bytes;") k_60) (fun _ h9 => h9) rfl dX6_cut_19 ?_
      have hPc := hP.sub (ws' := [(a1, .inr (0, [.ref ya, .int 0]))]) [1] rfl
      have hDc := hD.sub (ws' := [(a1, .inr (0, [.ref ya, .int 0]))]) [1] (by decide) rfl
      have hKc := hK.sub (tys' := []) [] rfl
      have hFc := va_free (wc := [(a1, .inr (0, [.ref ya, .int 0]))]) hD hS hA [1] rfl
      refine va_calli (va_runV (As := []) (rest := []) ⟨hx, hb, hml, hown, hts⟩ (c_X0_length l dC dI H.size a1 ya 0) (cwV 0 hts gg_RX6_58 rfl rfl rfl (by decide +kernel) ⟨Nat.le_of_ble_eq_true rfl, Nat.le_of_ble_eq_true rfl⟩) ⟨fun a U g mk q => by obtain ⟨q0, q1, qP, qK, qD⟩ := q; exact ⟨q0, q1, qP, va_K.moved (u := U) (U := U.calling g mk a) (Vm.Alike.refl U.vm) qK, qD⟩, va_recv hK hP (ci := 0) (q0 := 1) rfl rfl, fun U hU hW => ⟨rfl, by rw [hU], by rw [hU]; exact hPc, va_K.moved hW.alike hKc, hDc.weaken (fun _ _ _ _ => trivial)⟩⟩ rfl rfl hl.1 rfl (lv_room (Nat.le_of_ble_eq_true rfl)) dX6_cut_22 ⟨Nat.le_of_ble_eq_true rfl, Nat.le_of_ble_eq_true rfl⟩) hS (fun q _ h => hFc q h) hFc (fun r2 u t H1 locs ht hvm hw hB hz1 hk1 hS => ?_)
      obtain ⟨hP1, hK1, hD1⟩ := hB
      rw [ht] at hP1
      have hK1 := va_K.moved hvm.symm hK1
      obtain ⟨hP, hD⟩ := va_join (wr := [(a0, .inr (6, [.ref a1, .ref a2, .ref a3, .ref a4, .ref a5, .int (-1), .int 0]))]) (w1 := [(a1, .inr (0, [.ref ya, .int 0]))]) hP hD [1] [0] rfl rfl (by decide) (by decide) hk1 hFc hP1 hD1
      have hK := (hK.sub (tys' := []) [] rfl).app hK1
      generalize H1 = H at hP hS ⊢
      have hP : va_P (dC, dI) vwCl [(a0, .inr (6, [.ref a1, .ref a2, .ref a3, .ref a4, .ref a5, .int (-1), .int 0])), (a1, .inr (0, [.ref ya, .int 0]))] H := hP
      have hD : va_D A [(a0, .inr (6, [.ref a1, .ref a2, .ref a3, .ref a4, .ref a5, .int (-1), .int 0])), (a1, .inr (0, [.ref ya, .int 0]))] := hD
      have hK : va_K (dC, dI) vwCl [] s := hK
      have hw : r2 = 0 := hw
      subst hw
      refine lv_iload_n hx hb dX6_cut_25 rfl (lv_at hl 1 rfl) ?_
      refine lv_isub hx hb dX6_cut_26 ?_
      refine pf_top (y := 0) (pf_sub0 c_1 c_12) ?_
      refine lv_istore_n (lv' := [(2, .int 0), (0, .ref a0), (1, .int k0)]) hx hb dX6_cut_27 rfl hl (by decide) rfl (fun ls hl => ?_)
      refine lv_aload_n hx hb dX6_cut_28 rfl (lv_at hl 1 rfl) ?_
      refine va_get (D := (dC, dI)) (ci := 6) (v := .ref a1) (C := RX6) (T := TX6) (N := 7) hx hb hts inAll_6 hown hK hP 0 rfl rfl 0 (by decide) (hts (.fieldLink RX6 14 "LoopEnvelopes" "text" "LLoopEnvelopes$Bytes;") k_60) (fun _ h9 => h9) rfl dX6_cut_29 ?_
      refine lv_iload_n hx hb dX6_cut_32 rfl (lv_at hl 2 rfl) ?_
      have hPc := hP.sub (ws' := [(a1, .inr (0, [.ref ya, .int 0]))]) [1] rfl
      have hDc := hD.sub (ws' := [(a1, .inr (0, [.ref ya, .int 0]))]) [1] (by decide) rfl
      have hKc := hK.sub (tys' := []) [] rfl
      have hFc := va_free (wc := [(a1, .inr (0, [.ref ya, .int 0]))]) hD hS hA [1] rfl
      refine va_callv (va_runV (As := [.int k0]) (rest := []) ⟨hx, hb, hml, hown, hts⟩ (c_X0_shorten l dC dI H.size a1 ya k0 (c_12)) (cwV 1 hts gg_RX6_76 rfl rfl rfl (by decide +kernel) ⟨Nat.le_of_ble_eq_true rfl, Nat.le_of_ble_eq_true rfl⟩) ⟨fun a U g mk q => by obtain ⟨q0, q1, qP, qK, qD⟩ := q; exact ⟨q0, q1, qP, va_K.moved (u := U) (U := U.calling g mk a) (Vm.Alike.refl U.vm) qK, qD⟩, va_recv hK hP (ci := 0) (q0 := 1) rfl rfl, fun U hU hW => ⟨rfl, by rw [hU], by rw [hU]; exact hPc, va_K.moved hW.alike hKc, hDc.weaken (fun _ _ _ _ => trivial)⟩⟩ rfl rfl hl.1 rfl (lv_room (Nat.le_of_ble_eq_true rfl)) dX6_cut_33 ⟨Nat.le_of_ble_eq_true rfl, Nat.le_of_ble_eq_true rfl⟩) hS (fun q _ h => hFc q h) hFc (fun u t H1 locs ht hvm hw hB hz1 hk1 hS => ?_)
      obtain ⟨hP1, hK1, hD1⟩ := hB
      rw [ht] at hP1
      have hK1 := va_K.moved hvm.symm hK1
      obtain ⟨hP, hD⟩ := va_join (wr := [(a0, .inr (6, [.ref a1, .ref a2, .ref a3, .ref a4, .ref a5, .int (-1), .int 0]))]) (w1 := [(a1, .inr (0, [.ref ya, .int 0]))]) hP hD [1] [0] rfl rfl (by decide) (by decide) hk1 hFc hP1 hD1
      have hK := (hK.sub (tys' := []) [] rfl).app hK1
      generalize H1 = H at hP hS ⊢
      have hP : va_P (dC, dI) vwCl [(a0, .inr (6, [.ref a1, .ref a2, .ref a3, .ref a4, .ref a5, .int (-1), .int 0])), (a1, .inr (0, [.ref ya, .int 0]))] H := hP
      have hD : va_D A [(a0, .inr (6, [.ref a1, .ref a2, .ref a3, .ref a4, .ref a5, .int (-1), .int 0])), (a1, .inr (0, [.ref ya, .int 0]))] := hD
      have hK : va_K (dC, dI) vwCl [] s := hK
      refine lv_iload_n hx hb dX6_cut_36 rfl (lv_at hl 0 rfl) ?_
      have hP9 := hP.sub (ws' := []) [] rfl
      have hD9 := hD.sub (ws' := []) [] (by decide) rfl
      have hK9 := hK.sub (tys' := []) [] rfl
      exact W.iret (v := 0) hx hb hr (fun t ht hW => ⟨⟨0, (), rfl, by unfold pf_cut; rw [if_neg c_1, if_pos c_12], by rw [ht]; exact hP9, va_K.moved hW.alike hK9, hD9⟩, hS.F ht⟩) hS.2.2 dX6_cut_37
    · skip
      refine lv_bipush (v := (-3)) hx hb dX6_cut_15 (by decide) ?_
      have hP9 := hP.sub (ws' := []) [] rfl
      have hD9 := hD.sub (ws' := []) [] (by decide) rfl
      have hK9 := hK.sub (tys' := []) [] rfl
      exact W.iret (v := (-3)) hx hb hr (fun t ht hW => ⟨⟨(-3), (), rfl, by unfold pf_cut; rw [if_neg c_1, if_neg c_12], by rw [ht]; exact hP9, va_K.moved hW.alike hK9, hD9⟩, hS.F ht⟩) hS.2.2 dX6_cut_17

set_option maxHeartbeats 4000000 in
set_option maxRecDepth 100000 in
theorem c_X6_count (l : Launch) (dC : Nat → ClassId) (dI : Nat → Nat → Nat) (sz : Nat) (a0 : Nat) (a1 : Nat) (a2 : Nat) (a3 : Nat) (a4 : Nat) (a5 : Nat) (ya : Nat) (h4 : Nat) (b5 : Nat) (yc : Nat) (k0 : Int32) : Met l yX6_count pwX6_count ({ frames := 2, cells := 0, slots := 0, locals := 40 } : Room) (va_Pc [.ref a0, .int k0] (fun U => U.heap.size = sz ∧ va_P (dC, dI) vwCl [(a0, .inr (6, [.ref a1, .ref a2, .ref a3, .ref a4, .ref a5, .int (-1), .int 0])), (a1, .inr (0, [.ref ya, .int 0])), (a5, .inr (5, [.ref h4, .ref b5, .int 0])), (b5, .inr (0, [.ref yc, .int 0]))] U.heap ∧ va_K (dC, dI) vwCl [] U ∧ va_D (fun _ => True) [(a0, .inr (6, [.ref a1, .ref a2, .ref a3, .ref a4, .ref a5, .int (-1), .int 0])), (a1, .inr (0, [.ref ya, .int 0])), (a5, .inr (5, [.ref h4, .ref b5, .int 0])), (b5, .inr (0, [.ref yc, .int 0]))])) (va_Qi (fun (r : Int32) (_ : Unit) => r = pf_count k0) (fun (_ : Unit) (t : State) => va_P (dC, dI) vwCl [] t.heap ∧ va_K (dC, dI) vwCl [] t ∧ va_D (va_A [(a0, .inr (6, [.ref a1, .ref a2, .ref a3, .ref a4, .ref a5, .int (-1), .int 0])), (a1, .inr (0, [.ref ya, .int 0])), (a5, .inr (5, [.ref h4, .ref b5, .int 0])), (b5, .inr (0, [.ref yc, .int 0]))] sz) []) (va_A [(a0, .inr (6, [.ref a1, .ref a2, .ref a3, .ref a4, .ref a5, .int (-1), .int 0])), (a1, .inr (0, [.ref ya, .int 0])), (a5, .inr (5, [.ref h4, .ref b5, .int 0])), (b5, .inr (0, [.ref yc, .int 0]))] sz)) 0 0 (va_A [(a0, .inr (6, [.ref a1, .ref a2, .ref a3, .ref a4, .ref a5, .int (-1), .int 0])), (a1, .inr (0, [.ref ya, .int 0])), (a5, .inr (5, [.ref h4, .ref b5, .int 0])), (b5, .inr (0, [.ref yc, .int 0]))] sz) := by
  refine Met.ofW (cc := cX6_count) (maxL := 2) (ret := (some .int)) (by decide) rfl ?_
  intro p e s m args below meth c s₁ B hml hv
  obtain ⟨rfl, hsz, hP, hK, hD0⟩ := hv
  have hx := B.exec
  have hb := B.bytes
  have hr := B.returns
  have hts0 := atoms_spec (ws := pwX6_count) B.pre
  have hts := fun w (h : w ∈ pwAll) => hts0 w (List.mem_cons_of_mem _ h)
  have hown : s.vm.findClass RX6 = some m.cls := findClass_of_methodNamed B.named
  have hlocks := B.notSynchronized
  subst hsz
  have hD := hD0.self (sz := s.heap.size)
  generalize hAe : va_A [(a0, .inr (6, [.ref a1, .ref a2, .ref a3, .ref a4, .ref a5, .int (-1), .int 0])), (a1, .inr (0, [.ref ya, .int 0])), (a5, .inr (5, [.ref h4, .ref b5, .int 0])), (b5, .inr (0, [.ref yc, .int 0]))] s.heap.size = A at hD ⊢
  have hA : ∀ q : Nat, s.heap.size ≤ q → A q := fun q h => by rw [← hAe]; exact Or.inr h
  have hS : va_S A s.heap s.heap [] := va_S.rf
  have hP : va_P (dC, dI) vwCl [(a0, .inr (6, [.ref a1, .ref a2, .ref a3, .ref a4, .ref a5, .int (-1), .int 0])), (a1, .inr (0, [.ref ya, .int 0])), (a5, .inr (5, [.ref h4, .ref b5, .int 0])), (b5, .inr (0, [.ref yc, .int 0]))] s.heap := hP
  have hl := lv_entry ([.ref a0, .int k0]) (n := 2) (Nat.le_of_ble_eq_true rfl)
  rw [lg_entry_eq]
  generalize (lg_sl ([.ref a0, .int k0]) ++ List.replicate (2 - (lg_sl ([.ref a0, .int k0])).length) Slot.unset).toArray = ls at hl ⊢
  have hl : lv_has ls 2 [(0, .ref a0), (1, .int k0)] := hl
  refine lv_iload_n hx hb dX6_count_0 rfl (lv_at hl 1 rfl) ?_
  refine lv_if_lt (tgt := 10) hx hb dX6_count_1 (by decide) (fun c_1 => ?_) (fun c_1 => ?_)
  · skip
    refine lv_bipush (v := (-3)) hx hb dX6_count_10 (by decide) ?_
    have hP9 := hP.sub (ws' := []) [] rfl
    have hD9 := hD.sub (ws' := []) [] (by decide) rfl
    have hK9 := hK.sub (tys' := []) [] rfl
    exact W.iret (v := (-3)) hx hb hr (fun t ht hW => ⟨⟨(-3), (), rfl, by unfold pf_count; rw [if_pos c_1], by rw [ht]; exact hP9, va_K.moved hW.alike hK9, hD9⟩, hS.F ht⟩) hS.2.2 dX6_count_12
  · skip
    refine lv_iload_n hx hb dX6_count_4 rfl (lv_at hl 1 rfl) ?_
    refine lv_bipush (v := 6) hx hb dX6_count_5 (by decide) ?_
    refine lv_icmp_le (tgt := 13) hx hb dX6_count_7 (by decide) (fun c_7 => ?_) (fun c_7 => ?_)
    · skip
      refine lv_iload_n hx hb dX6_count_13 rfl (lv_at hl 1 rfl) ?_
      refine lv_iconst (v := 5) hx hb dX6_count_14 (by decide) ?_
      refine lv_icmp_ne (tgt := 26) hx hb dX6_count_15 (by decide) (fun c_15 => ?_) (fun c_15 => ?_)
      · skip
        refine lv_iload_n hx hb dX6_count_26 rfl (lv_at hl 1 rfl) ?_
        refine lv_bipush (v := 6) hx hb dX6_count_27 (by decide) ?_
        refine lv_icmp_ne (tgt := 40) hx hb dX6_count_29 (by decide) (fun c_29 => ?_) (fun c_29 => ?_)
        · skip
          refine lv_aload_n hx hb dX6_count_40 rfl (lv_at hl 0 rfl) ?_
          refine va_get (D := (dC, dI)) (ci := 6) (v := .int 0) (C := RX6) (T := TX6) (N := 7) hx hb hts inAll_6 hown hK hP 0 rfl rfl 6 (by decide) (hts (.fieldLink RX6 54 "LoopEnvelopes" "taken" "Z") k_90) (fun _ h9 => h9) rfl dX6_count_41 ?_
          refine lv_if_ne (tgt := 50) hx hb dX6_count_44 (by decide) (fun c_44 => absurd (rfl) c_44) (fun c_44 => ?_)
          refine lv_bipush (v := (-4)) hx hb dX6_count_47 (by decide) ?_
          have hP9 := hP.sub (ws' := []) [] rfl
          have hD9 := hD.sub (ws' := []) [] (by decide) rfl
          have hK9 := hK.sub (tys' := []) [] rfl
          exact W.iret (v := (-4)) hx hb hr (fun t ht hW => ⟨⟨(-4), (), rfl, by unfold pf_count; rw [if_neg c_1, if_pos c_7, if_neg c_15, if_neg c_29], by rw [ht]; exact hP9, va_K.moved hW.alike hK9, hD9⟩, hS.F ht⟩) hS.2.2 dX6_count_49
        · skip
          refine lv_aload_n hx hb dX6_count_32 rfl (lv_at hl 0 rfl) ?_
          refine va_get (D := (dC, dI)) (ci := 6) (v := .ref a5) (C := RX6) (T := TX6) (N := 7) hx hb hts inAll_6 hown hK hP 0 rfl rfl 4 (by decide) (hts (.fieldLink RX6 46 "LoopEnvelopes" "writer" "LLoopEnvelopes$Writer;") k_88) (fun _ h9 => h9) rfl dX6_count_33 ?_
          have hPc := hP.sub (ws' := [(a5, .inr (5, [.ref h4, .ref b5, .int 0])), (b5, .inr (0, [.ref yc, .int 0]))]) [2, 3] rfl
          have hDc := hD.sub (ws' := [(a5, .inr (5, [.ref h4, .ref b5, .int 0])), (b5, .inr (0, [.ref yc, .int 0]))]) [2, 3] (by decide) rfl
          have hKc := hK.sub (tys' := []) [] rfl
          have hFc := va_free (wc := [(a5, .inr (5, [.ref h4, .ref b5, .int 0])), (b5, .inr (0, [.ref yc, .int 0]))]) hD hS hA [2, 3] rfl
          refine va_calli (va_runV (As := []) (rest := []) ⟨hx, hb, hml, hown, hts⟩ (c_X5_length l dC dI s.heap.size a5 h4 b5 yc) (cwV 0 hts gg_RX6_103 rfl rfl rfl (by decide +kernel) ⟨Nat.le_of_ble_eq_true rfl, Nat.le_of_ble_eq_true rfl⟩) ⟨fun a U g mk q => by obtain ⟨q0, q1, qP, qK, qD⟩ := q; exact ⟨q0, q1, qP, va_K.moved (u := U) (U := U.calling g mk a) (Vm.Alike.refl U.vm) qK, qD⟩, va_recv hK hP (ci := 5) (q0 := 2) rfl rfl, fun U hU hW => ⟨rfl, by rw [hU], by rw [hU]; exact hPc, va_K.moved hW.alike hKc, hDc.weaken (fun _ _ _ _ => trivial)⟩⟩ rfl rfl hl.1 rfl (lv_room (Nat.le_of_ble_eq_true rfl)) dX6_count_36 ⟨Nat.le_of_ble_eq_true rfl, Nat.le_of_ble_eq_true rfl⟩) hS (fun q _ h => hFc q h) hFc (fun r1 u t H1 locs ht hvm hw hB hz1 hk1 hS => ?_)
          obtain ⟨hP1, hK1, hD1⟩ := hB
          rw [ht] at hP1
          have hK1 := va_K.moved hvm.symm hK1
          obtain ⟨hP, hD⟩ := va_join (wr := [(a0, .inr (6, [.ref a1, .ref a2, .ref a3, .ref a4, .ref a5, .int (-1), .int 0])), (a1, .inr (0, [.ref ya, .int 0]))]) (w1 := [(a5, .inr (5, [.ref h4, .ref b5, .int 0])), (b5, .inr (0, [.ref yc, .int 0]))]) hP hD [2, 3] [0, 1] rfl rfl (by decide) (by decide) hk1 hFc hP1 hD1
          have hK := (hK.sub (tys' := []) [] rfl).app hK1
          generalize H1 = H at hP hS ⊢
          have hP : va_P (dC, dI) vwCl [(a0, .inr (6, [.ref a1, .ref a2, .ref a3, .ref a4, .ref a5, .int (-1), .int 0])), (a1, .inr (0, [.ref ya, .int 0])), (a5, .inr (5, [.ref h4, .ref b5, .int 0])), (b5, .inr (0, [.ref yc, .int 0]))] H := hP
          have hD : va_D A [(a0, .inr (6, [.ref a1, .ref a2, .ref a3, .ref a4, .ref a5, .int (-1), .int 0])), (a1, .inr (0, [.ref ya, .int 0])), (a5, .inr (5, [.ref h4, .ref b5, .int 0])), (b5, .inr (0, [.ref yc, .int 0]))] := hD
          have hK : va_K (dC, dI) vwCl [] s := hK
          have hw : r1 = 0 := hw
          subst hw
          have hP9 := hP.sub (ws' := []) [] rfl
          have hD9 := hD.sub (ws' := []) [] (by decide) rfl
          have hK9 := hK.sub (tys' := []) [] rfl
          exact W.iret (v := 0) hx hb hr (fun t ht hW => ⟨⟨0, (), rfl, by unfold pf_count; rw [if_neg c_1, if_pos c_7, if_neg c_15, if_pos c_29], by rw [ht]; exact hP9, va_K.moved hW.alike hK9, hD9⟩, hS.F ht⟩) hS.2.2 dX6_count_39
      · skip
        refine lv_aload_n hx hb dX6_count_18 rfl (lv_at hl 0 rfl) ?_
        refine va_get (D := (dC, dI)) (ci := 6) (v := .ref a1) (C := RX6) (T := TX6) (N := 7) hx hb hts inAll_6 hown hK hP 0 rfl rfl 0 (by decide) (hts (.fieldLink RX6 14 "LoopEnvelopes" "text" "LLoopEnvelopes$Bytes;") k_60) (fun _ h9 => h9) rfl dX6_count_19 ?_
        have hPc := hP.sub (ws' := [(a1, .inr (0, [.ref ya, .int 0]))]) [1] rfl
        have hDc := hD.sub (ws' := [(a1, .inr (0, [.ref ya, .int 0]))]) [1] (by decide) rfl
        have hKc := hK.sub (tys' := []) [] rfl
        have hFc := va_free (wc := [(a1, .inr (0, [.ref ya, .int 0]))]) hD hS hA [1] rfl
        refine va_calli (va_runV (As := []) (rest := []) ⟨hx, hb, hml, hown, hts⟩ (c_X0_length l dC dI s.heap.size a1 ya 0) (cwV 0 hts gg_RX6_58 rfl rfl rfl (by decide +kernel) ⟨Nat.le_of_ble_eq_true rfl, Nat.le_of_ble_eq_true rfl⟩) ⟨fun a U g mk q => by obtain ⟨q0, q1, qP, qK, qD⟩ := q; exact ⟨q0, q1, qP, va_K.moved (u := U) (U := U.calling g mk a) (Vm.Alike.refl U.vm) qK, qD⟩, va_recv hK hP (ci := 0) (q0 := 1) rfl rfl, fun U hU hW => ⟨rfl, by rw [hU], by rw [hU]; exact hPc, va_K.moved hW.alike hKc, hDc.weaken (fun _ _ _ _ => trivial)⟩⟩ rfl rfl hl.1 rfl (lv_room (Nat.le_of_ble_eq_true rfl)) dX6_count_22 ⟨Nat.le_of_ble_eq_true rfl, Nat.le_of_ble_eq_true rfl⟩) hS (fun q _ h => hFc q h) hFc (fun r2 u t H1 locs ht hvm hw hB hz1 hk1 hS => ?_)
        obtain ⟨hP1, hK1, hD1⟩ := hB
        rw [ht] at hP1
        have hK1 := va_K.moved hvm.symm hK1
        obtain ⟨hP, hD⟩ := va_join (wr := [(a0, .inr (6, [.ref a1, .ref a2, .ref a3, .ref a4, .ref a5, .int (-1), .int 0])), (a5, .inr (5, [.ref h4, .ref b5, .int 0])), (b5, .inr (0, [.ref yc, .int 0]))]) (w1 := [(a1, .inr (0, [.ref ya, .int 0]))]) hP hD [1] [0, 2, 3] rfl rfl (by decide) (by decide) hk1 hFc hP1 hD1
        have hK := (hK.sub (tys' := []) [] rfl).app hK1
        generalize H1 = H at hP hS ⊢
        have hP : va_P (dC, dI) vwCl [(a0, .inr (6, [.ref a1, .ref a2, .ref a3, .ref a4, .ref a5, .int (-1), .int 0])), (a5, .inr (5, [.ref h4, .ref b5, .int 0])), (b5, .inr (0, [.ref yc, .int 0])), (a1, .inr (0, [.ref ya, .int 0]))] H := hP
        have hD : va_D A [(a0, .inr (6, [.ref a1, .ref a2, .ref a3, .ref a4, .ref a5, .int (-1), .int 0])), (a5, .inr (5, [.ref h4, .ref b5, .int 0])), (b5, .inr (0, [.ref yc, .int 0])), (a1, .inr (0, [.ref ya, .int 0]))] := hD
        have hK : va_K (dC, dI) vwCl [] s := hK
        have hw : r2 = 0 := hw
        subst hw
        have hP9 := hP.sub (ws' := []) [] rfl
        have hD9 := hD.sub (ws' := []) [] (by decide) rfl
        have hK9 := hK.sub (tys' := []) [] rfl
        exact W.iret (v := 0) hx hb hr (fun t ht hW => ⟨⟨0, (), rfl, by unfold pf_count; rw [if_neg c_1, if_pos c_7, if_pos c_15], by rw [ht]; exact hP9, va_K.moved hW.alike hK9, hD9⟩, hS.F ht⟩) hS.2.2 dX6_count_25
    · skip
      refine lv_bipush (v := (-3)) hx hb dX6_count_10 (by decide) ?_
      have hP9 := hP.sub (ws' := []) [] rfl
      have hD9 := hD.sub (ws' := []) [] (by decide) rfl
      have hK9 := hK.sub (tys' := []) [] rfl
      exact W.iret (v := (-3)) hx hb hr (fun t ht hW => ⟨⟨(-3), (), rfl, by unfold pf_count; rw [if_neg c_1, if_neg c_7], by rw [ht]; exact hP9, va_K.moved hW.alike hK9, hD9⟩, hS.F ht⟩) hS.2.2 dX6_count_12

set_option maxHeartbeats 4000000 in
set_option maxRecDepth 100000 in
theorem c_X6_answered (l : Launch) (dC : Nat → ClassId) (dI : Nat → Nat → Nat) (sz : Nat) (a0 : Nat) (a1 : Nat) (a2 : Nat) (a3 : Nat) (a4 : Nat) (a5 : Nat) (h4 : Nat) (b5 : Nat) (yc : Nat) (k0 : Int32) : Met l yX6_answered pwX6_answered ({ frames := 2, cells := 0, slots := 0, locals := 42 } : Room) (va_Pc [.ref a0, .int k0] (fun U => U.heap.size = sz ∧ va_P (dC, dI) vwCl [(a0, .inr (6, [.ref a1, .ref a2, .ref a3, .ref a4, .ref a5, .int (-1), .int 0])), (a5, .inr (5, [.ref h4, .ref b5, .int 0])), (b5, .inr (0, [.ref yc, .int 0]))] U.heap ∧ va_K (dC, dI) vwCl [] U ∧ va_D (fun _ => True) [(a0, .inr (6, [.ref a1, .ref a2, .ref a3, .ref a4, .ref a5, .int (-1), .int 0])), (a5, .inr (5, [.ref h4, .ref b5, .int 0])), (b5, .inr (0, [.ref yc, .int 0]))])) (va_Qi (fun (r : Int32) (_ : Unit) => r = (-2)) (fun (_ : Unit) (t : State) => va_P (dC, dI) vwCl [] t.heap ∧ va_K (dC, dI) vwCl [] t ∧ va_D (va_A [(a0, .inr (6, [.ref a1, .ref a2, .ref a3, .ref a4, .ref a5, .int (-1), .int 0])), (a5, .inr (5, [.ref h4, .ref b5, .int 0])), (b5, .inr (0, [.ref yc, .int 0]))] sz) []) (va_A [(a0, .inr (6, [.ref a1, .ref a2, .ref a3, .ref a4, .ref a5, .int (-1), .int 0])), (a5, .inr (5, [.ref h4, .ref b5, .int 0])), (b5, .inr (0, [.ref yc, .int 0]))] sz)) 0 0 (va_A [(a0, .inr (6, [.ref a1, .ref a2, .ref a3, .ref a4, .ref a5, .int (-1), .int 0])), (a5, .inr (5, [.ref h4, .ref b5, .int 0])), (b5, .inr (0, [.ref yc, .int 0]))] sz) := by
  refine Met.ofW (cc := cX6_answered) (maxL := 3) (ret := (some .int)) (by decide) rfl ?_
  intro p e s m args below meth c s₁ B hml hv
  obtain ⟨rfl, hsz, hP, hK, hD0⟩ := hv
  have hx := B.exec
  have hb := B.bytes
  have hr := B.returns
  have hts0 := atoms_spec (ws := pwX6_answered) B.pre
  have hts := fun w (h : w ∈ pwAll) => hts0 w (List.mem_cons_of_mem _ h)
  have hown : s.vm.findClass RX6 = some m.cls := findClass_of_methodNamed B.named
  have hlocks := B.notSynchronized
  subst hsz
  have hD := hD0.self (sz := s.heap.size)
  generalize hAe : va_A [(a0, .inr (6, [.ref a1, .ref a2, .ref a3, .ref a4, .ref a5, .int (-1), .int 0])), (a5, .inr (5, [.ref h4, .ref b5, .int 0])), (b5, .inr (0, [.ref yc, .int 0]))] s.heap.size = A at hD ⊢
  have hA : ∀ q : Nat, s.heap.size ≤ q → A q := fun q h => by rw [← hAe]; exact Or.inr h
  have hS : va_S A s.heap s.heap [] := va_S.rf
  have hP : va_P (dC, dI) vwCl [(a0, .inr (6, [.ref a1, .ref a2, .ref a3, .ref a4, .ref a5, .int (-1), .int 0])), (a5, .inr (5, [.ref h4, .ref b5, .int 0])), (b5, .inr (0, [.ref yc, .int 0]))] s.heap := hP
  have hl := lv_entry ([.ref a0, .int k0]) (n := 3) (Nat.le_of_ble_eq_true rfl)
  rw [lg_entry_eq]
  generalize (lg_sl ([.ref a0, .int k0]) ++ List.replicate (3 - (lg_sl ([.ref a0, .int k0])).length) Slot.unset).toArray = ls at hl ⊢
  have hl : lv_has ls 3 [(0, .ref a0), (1, .int k0)] := hl
  refine lv_aload_n hx hb dX6_answered_0 rfl (lv_at hl 0 rfl) ?_
  refine va_get (D := (dC, dI)) (ci := 6) (v := .ref a5) (C := RX6) (T := TX6) (N := 7) hx hb hts inAll_6 hown hK hP 0 rfl rfl 4 (by decide) (hts (.fieldLink RX6 46 "LoopEnvelopes" "writer" "LLoopEnvelopes$Writer;") k_88) (fun _ h9 => h9) rfl dX6_answered_1 ?_
  refine lv_iload_n hx hb dX6_answered_4 rfl (lv_at hl 1 rfl) ?_
  have hPc := hP.sub (ws' := [(a5, .inr (5, [.ref h4, .ref b5, .int 0])), (b5, .inr (0, [.ref yc, .int 0]))]) [1, 2] rfl
  have hDc := hD.sub (ws' := [(a5, .inr (5, [.ref h4, .ref b5, .int 0])), (b5, .inr (0, [.ref yc, .int 0]))]) [1, 2] (by decide) rfl
  have hKc := hK.sub (tys' := []) [] rfl
  have hFc := va_free (wc := [(a5, .inr (5, [.ref h4, .ref b5, .int 0])), (b5, .inr (0, [.ref yc, .int 0]))]) hD hS hA [1, 2] rfl
  refine va_calli (va_runV (As := [.int k0]) (rest := []) ⟨hx, hb, hml, hown, hts⟩ (c_X5_at l dC dI s.heap.size a5 h4 b5 yc k0) (cwV 1 hts gg_RX6_169 rfl rfl rfl (by decide +kernel) ⟨Nat.le_of_ble_eq_true rfl, Nat.le_of_ble_eq_true rfl⟩) ⟨fun a U g mk q => by obtain ⟨q0, q1, qP, qK, qD⟩ := q; exact ⟨q0, q1, qP, va_K.moved (u := U) (U := U.calling g mk a) (Vm.Alike.refl U.vm) qK, qD⟩, va_recv hK hP (ci := 5) (q0 := 1) rfl rfl, fun U hU hW => ⟨rfl, by rw [hU], by rw [hU]; exact hPc, va_K.moved hW.alike hKc, hDc.weaken (fun _ _ _ _ => trivial)⟩⟩ rfl rfl hl.1 rfl (lv_room (Nat.le_of_ble_eq_true rfl)) dX6_answered_5 ⟨Nat.le_of_ble_eq_true rfl, Nat.le_of_ble_eq_true rfl⟩) hS (fun q _ h => hFc q h) hFc (fun r1 u t H1 locs ht hvm hw hB hz1 hk1 hS => ?_)
  obtain ⟨hP1, hK1, hD1⟩ := hB
  rw [ht] at hP1
  have hK1 := va_K.moved hvm.symm hK1
  obtain ⟨hP, hD⟩ := va_join (wr := [(a0, .inr (6, [.ref a1, .ref a2, .ref a3, .ref a4, .ref a5, .int (-1), .int 0]))]) (w1 := [(a5, .inr (5, [.ref h4, .ref b5, .int 0])), (b5, .inr (0, [.ref yc, .int 0]))]) hP hD [1, 2] [0] rfl rfl (by decide) (by decide) hk1 hFc hP1 hD1
  have hK := (hK.sub (tys' := []) [] rfl).app hK1
  generalize H1 = H at hP hS ⊢
  have hP : va_P (dC, dI) vwCl [(a0, .inr (6, [.ref a1, .ref a2, .ref a3, .ref a4, .ref a5, .int (-1), .int 0])), (a5, .inr (5, [.ref h4, .ref b5, .int 0])), (b5, .inr (0, [.ref yc, .int 0]))] H := hP
  have hD : va_D A [(a0, .inr (6, [.ref a1, .ref a2, .ref a3, .ref a4, .ref a5, .int (-1), .int 0])), (a5, .inr (5, [.ref h4, .ref b5, .int 0])), (b5, .inr (0, [.ref yc, .int 0]))] := hD
  have hK : va_K (dC, dI) vwCl [] s := hK
  have hw : r1 = (-1) := hw
  subst hw
  refine lv_istore_n (lv' := [(2, .int (-1)), (0, .ref a0), (1, .int k0)]) hx hb dX6_answered_8 rfl hl (by decide) rfl (fun ls hl => ?_)
  refine lv_iload_n hx hb dX6_answered_9 rfl (lv_at hl 0 rfl) ?_
  refine lv_iconst (v := (-1)) hx hb dX6_answered_10 (by decide) ?_
  refine lv_icmp_ne (tgt := 19) hx hb dX6_answered_11 (by decide) (fun c_11 => absurd (rfl) c_11) (fun c_11 => ?_)
  refine lv_bipush (v := (-2)) hx hb dX6_answered_14 (by decide) ?_
  refine lv_goto (tgt := 20) hx hb dX6_answered_16 (by decide) ?_
  have hP9 := hP.sub (ws' := []) [] rfl
  have hD9 := hD.sub (ws' := []) [] (by decide) rfl
  have hK9 := hK.sub (tys' := []) [] rfl
  exact W.iret (v := (-2)) hx hb hr (fun t ht hW => ⟨⟨(-2), (), rfl, rfl, by rw [ht]; exact hP9, va_K.moved hW.alike hK9, hD9⟩, hS.F ht⟩) hS.2.2 dX6_answered_20

set_option maxHeartbeats 4000000 in
set_option maxRecDepth 100000 in
theorem c_X6_turn (l : Launch) (dC : Nat → ClassId) (dI : Nat → Nat → Nat) (sz : Nat) (a0 : Nat) (a1 : Nat) (a2 : Nat) (a3 : Nat) (a4 : Nat) (a5 : Nat) (h4 : Nat) (b5 : Nat) (yc : Nat) : Met l yX6_turn pwX6_turn ({ frames := 2, cells := 0, slots := 0, locals := 40 } : Room) (va_Pc [.ref a0] (fun U => U.heap.size = sz ∧ va_P (dC, dI) vwCl [(a0, .inr (6, [.ref a1, .ref a2, .ref a3, .ref a4, .ref a5, .int (-1), .int 0])), (a5, .inr (5, [.ref h4, .ref b5, .int 0])), (b5, .inr (0, [.ref yc, .int 0]))] U.heap ∧ va_K (dC, dI) vwCl [] U ∧ va_D (fun _ => True) [(a0, .inr (6, [.ref a1, .ref a2, .ref a3, .ref a4, .ref a5, .int (-1), .int 0])), (a5, .inr (5, [.ref h4, .ref b5, .int 0])), (b5, .inr (0, [.ref yc, .int 0]))])) (va_Qi (fun (r : Int32) (_ : Unit) => r = (-4)) (fun (_ : Unit) (t : State) => va_P (dC, dI) vwCl [] t.heap ∧ va_K (dC, dI) vwCl [] t ∧ va_D (va_A [(a0, .inr (6, [.ref a1, .ref a2, .ref a3, .ref a4, .ref a5, .int (-1), .int 0])), (a5, .inr (5, [.ref h4, .ref b5, .int 0])), (b5, .inr (0, [.ref yc, .int 0]))] sz) []) (va_A [(a0, .inr (6, [.ref a1, .ref a2, .ref a3, .ref a4, .ref a5, .int (-1), .int 0])), (a5, .inr (5, [.ref h4, .ref b5, .int 0])), (b5, .inr (0, [.ref yc, .int 0]))] sz)) 0 0 (va_A [(a0, .inr (6, [.ref a1, .ref a2, .ref a3, .ref a4, .ref a5, .int (-1), .int 0])), (a5, .inr (5, [.ref h4, .ref b5, .int 0])), (b5, .inr (0, [.ref yc, .int 0]))] sz) := by
  refine Met.ofW (cc := cX6_turn) (maxL := 2) (ret := (some .int)) (by decide) rfl ?_
  intro p e s m args below meth c s₁ B hml hv
  obtain ⟨rfl, hsz, hP, hK, hD0⟩ := hv
  have hx := B.exec
  have hb := B.bytes
  have hr := B.returns
  have hts0 := atoms_spec (ws := pwX6_turn) B.pre
  have hts := fun w (h : w ∈ pwAll) => hts0 w (List.mem_cons_of_mem _ h)
  have hown : s.vm.findClass RX6 = some m.cls := findClass_of_methodNamed B.named
  have hlocks := B.notSynchronized
  subst hsz
  have hD := hD0.self (sz := s.heap.size)
  generalize hAe : va_A [(a0, .inr (6, [.ref a1, .ref a2, .ref a3, .ref a4, .ref a5, .int (-1), .int 0])), (a5, .inr (5, [.ref h4, .ref b5, .int 0])), (b5, .inr (0, [.ref yc, .int 0]))] s.heap.size = A at hD ⊢
  have hA : ∀ q : Nat, s.heap.size ≤ q → A q := fun q h => by rw [← hAe]; exact Or.inr h
  have hS : va_S A s.heap s.heap [] := va_S.rf
  have hP : va_P (dC, dI) vwCl [(a0, .inr (6, [.ref a1, .ref a2, .ref a3, .ref a4, .ref a5, .int (-1), .int 0])), (a5, .inr (5, [.ref h4, .ref b5, .int 0])), (b5, .inr (0, [.ref yc, .int 0]))] s.heap := hP
  have hl := lv_entry ([.ref a0]) (n := 2) (Nat.le_of_ble_eq_true rfl)
  rw [lg_entry_eq]
  generalize (lg_sl ([.ref a0]) ++ List.replicate (2 - (lg_sl ([.ref a0])).length) Slot.unset).toArray = ls at hl ⊢
  have hl : lv_has ls 2 [(0, .ref a0)] := hl
  refine lv_aload_n hx hb dX6_turn_0 rfl (lv_at hl 0 rfl) ?_
  refine va_get (D := (dC, dI)) (ci := 6) (v := .ref a5) (C := RX6) (T := TX6) (N := 7) hx hb hts inAll_6 hown hK hP 0 rfl rfl 4 (by decide) (hts (.fieldLink RX6 46 "LoopEnvelopes" "writer" "LLoopEnvelopes$Writer;") k_88) (fun _ h9 => h9) rfl dX6_turn_1 ?_
  have hPc := hP.sub (ws' := [(a5, .inr (5, [.ref h4, .ref b5, .int 0])), (b5, .inr (0, [.ref yc, .int 0]))]) [1, 2] rfl
  have hDc := hD.sub (ws' := [(a5, .inr (5, [.ref h4, .ref b5, .int 0])), (b5, .inr (0, [.ref yc, .int 0]))]) [1, 2] (by decide) rfl
  have hKc := hK.sub (tys' := []) [] rfl
  have hFc := va_free (wc := [(a5, .inr (5, [.ref h4, .ref b5, .int 0])), (b5, .inr (0, [.ref yc, .int 0]))]) hD hS hA [1, 2] rfl
  refine va_calli (va_runV (As := []) (rest := []) ⟨hx, hb, hml, hown, hts⟩ (c_X5_length l dC dI s.heap.size a5 h4 b5 yc) (cwV 0 hts gg_RX6_103 rfl rfl rfl (by decide +kernel) ⟨Nat.le_of_ble_eq_true rfl, Nat.le_of_ble_eq_true rfl⟩) ⟨fun a U g mk q => by obtain ⟨q0, q1, qP, qK, qD⟩ := q; exact ⟨q0, q1, qP, va_K.moved (u := U) (U := U.calling g mk a) (Vm.Alike.refl U.vm) qK, qD⟩, va_recv hK hP (ci := 5) (q0 := 1) rfl rfl, fun U hU hW => ⟨rfl, by rw [hU], by rw [hU]; exact hPc, va_K.moved hW.alike hKc, hDc.weaken (fun _ _ _ _ => trivial)⟩⟩ rfl rfl hl.1 rfl (lv_room (Nat.le_of_ble_eq_true rfl)) dX6_turn_4 ⟨Nat.le_of_ble_eq_true rfl, Nat.le_of_ble_eq_true rfl⟩) hS (fun q _ h => hFc q h) hFc (fun r1 u t H1 locs ht hvm hw hB hz1 hk1 hS => ?_)
  obtain ⟨hP1, hK1, hD1⟩ := hB
  rw [ht] at hP1
  have hK1 := va_K.moved hvm.symm hK1
  obtain ⟨hP, hD⟩ := va_join (wr := [(a0, .inr (6, [.ref a1, .ref a2, .ref a3, .ref a4, .ref a5, .int (-1), .int 0]))]) (w1 := [(a5, .inr (5, [.ref h4, .ref b5, .int 0])), (b5, .inr (0, [.ref yc, .int 0]))]) hP hD [1, 2] [0] rfl rfl (by decide) (by decide) hk1 hFc hP1 hD1
  have hK := (hK.sub (tys' := []) [] rfl).app hK1
  generalize H1 = H at hP hS ⊢
  have hP : va_P (dC, dI) vwCl [(a0, .inr (6, [.ref a1, .ref a2, .ref a3, .ref a4, .ref a5, .int (-1), .int 0])), (a5, .inr (5, [.ref h4, .ref b5, .int 0])), (b5, .inr (0, [.ref yc, .int 0]))] H := hP
  have hD : va_D A [(a0, .inr (6, [.ref a1, .ref a2, .ref a3, .ref a4, .ref a5, .int (-1), .int 0])), (a5, .inr (5, [.ref h4, .ref b5, .int 0])), (b5, .inr (0, [.ref yc, .int 0]))] := hD
  have hK : va_K (dC, dI) vwCl [] s := hK
  have hw : r1 = 0 := hw
  subst hw
  refine lv_istore_n (lv' := [(1, .int 0), (0, .ref a0)]) hx hb dX6_turn_7 rfl hl (by decide) rfl (fun ls hl => ?_)
  refine lv_iload_n hx hb dX6_turn_8 rfl (lv_at hl 0 rfl) ?_
  refine lv_if_ne (tgt := 15) hx hb dX6_turn_9 (by decide) (fun c_9 => absurd (rfl) c_9) (fun c_9 => ?_)
  refine lv_bipush (v := (-4)) hx hb dX6_turn_12 (by decide) ?_
  have hP9 := hP.sub (ws' := []) [] rfl
  have hD9 := hD.sub (ws' := []) [] (by decide) rfl
  have hK9 := hK.sub (tys' := []) [] rfl
  exact W.iret (v := (-4)) hx hb hr (fun t ht hW => ⟨⟨(-4), (), rfl, rfl, by rw [ht]; exact hP9, va_K.moved hW.alike hK9, hD9⟩, hS.F ht⟩) hS.2.2 dX6_turn_14

set_option maxHeartbeats 4000000 in
set_option maxRecDepth 100000 in
theorem c_X6_read (l : Launch) (dC : Nat → ClassId) (dI : Nat → Nat → Nat) (sz : Nat) (a0 : Nat) (a1 : Nat) (a2 : Nat) (a3 : Nat) (a4 : Nat) (a5 : Nat) (ya : Nat) (b2 : Nat) (t1 : Nat) (t2 : Nat) (t3 : Nat) (yb : Nat) (h1 : Nat) (h2 : Nat) (h3 : Nat) : Met l yX6_read pwX6_read ({ frames := 3, cells := 0, slots := 0, locals := 64 } : Room) (va_Pc [.ref a0] (fun U => U.heap.size = sz ∧ va_P (dC, dI) vwCl [(a0, .inr (6, [.ref a1, .ref a2, .ref a3, .ref a4, .ref a5, .int (-1), .int 0])), (a1, .inr (0, [.ref ya, .int 0])), (a2, .inr (3, [.ref b2, .ref t1, .ref t2, .ref t3, .int 0])), (b2, .inr (0, [.ref yb, .int 0])), (a3, .inr (1, [.ref h1, .ref h2, .ref h3, .int 0, .int 0, .int 0]))] U.heap ∧ va_K (dC, dI) vwCl [] U ∧ va_D (fun _ => True) [(a0, .inr (6, [.ref a1, .ref a2, .ref a3, .ref a4, .ref a5, .int (-1), .int 0])), (a1, .inr (0, [.ref ya, .int 0])), (a2, .inr (3, [.ref b2, .ref t1, .ref t2, .ref t3, .int 0])), (b2, .inr (0, [.ref yb, .int 0])), (a3, .inr (1, [.ref h1, .ref h2, .ref h3, .int 0, .int 0, .int 0]))])) (va_Qi (fun (r : Int32) (_ : Unit) => r = 1) (fun (_ : Unit) (t : State) => va_P (dC, dI) vwCl [] t.heap ∧ va_K (dC, dI) vwCl [] t ∧ va_D (va_A [(a0, .inr (6, [.ref a1, .ref a2, .ref a3, .ref a4, .ref a5, .int (-1), .int 0])), (a1, .inr (0, [.ref ya, .int 0])), (a2, .inr (3, [.ref b2, .ref t1, .ref t2, .ref t3, .int 0])), (b2, .inr (0, [.ref yb, .int 0])), (a3, .inr (1, [.ref h1, .ref h2, .ref h3, .int 0, .int 0, .int 0]))] sz) []) (va_A [(a0, .inr (6, [.ref a1, .ref a2, .ref a3, .ref a4, .ref a5, .int (-1), .int 0])), (a1, .inr (0, [.ref ya, .int 0])), (a2, .inr (3, [.ref b2, .ref t1, .ref t2, .ref t3, .int 0])), (b2, .inr (0, [.ref yb, .int 0])), (a3, .inr (1, [.ref h1, .ref h2, .ref h3, .int 0, .int 0, .int 0]))] sz)) 0 0 (va_A [(a0, .inr (6, [.ref a1, .ref a2, .ref a3, .ref a4, .ref a5, .int (-1), .int 0])), (a1, .inr (0, [.ref ya, .int 0])), (a2, .inr (3, [.ref b2, .ref t1, .ref t2, .ref t3, .int 0])), (b2, .inr (0, [.ref yb, .int 0])), (a3, .inr (1, [.ref h1, .ref h2, .ref h3, .int 0, .int 0, .int 0]))] sz) := by
  refine Met.ofW (cc := cX6_read) (maxL := 3) (ret := (some .int)) (by decide) rfl ?_
  intro p e s m args below meth c s₁ B hml hv
  obtain ⟨rfl, hsz, hP, hK, hD0⟩ := hv
  have hx := B.exec
  have hb := B.bytes
  have hr := B.returns
  have hts0 := atoms_spec (ws := pwX6_read) B.pre
  have hts := fun w (h : w ∈ pwAll) => hts0 w (List.mem_cons_of_mem _ h)
  have hown : s.vm.findClass RX6 = some m.cls := findClass_of_methodNamed B.named
  have hlocks := B.notSynchronized
  subst hsz
  have hD := hD0.self (sz := s.heap.size)
  generalize hAe : va_A [(a0, .inr (6, [.ref a1, .ref a2, .ref a3, .ref a4, .ref a5, .int (-1), .int 0])), (a1, .inr (0, [.ref ya, .int 0])), (a2, .inr (3, [.ref b2, .ref t1, .ref t2, .ref t3, .int 0])), (b2, .inr (0, [.ref yb, .int 0])), (a3, .inr (1, [.ref h1, .ref h2, .ref h3, .int 0, .int 0, .int 0]))] s.heap.size = A at hD ⊢
  have hA : ∀ q : Nat, s.heap.size ≤ q → A q := fun q h => by rw [← hAe]; exact Or.inr h
  have hS : va_S A s.heap s.heap [] := va_S.rf
  have hP : va_P (dC, dI) vwCl [(a0, .inr (6, [.ref a1, .ref a2, .ref a3, .ref a4, .ref a5, .int (-1), .int 0])), (a1, .inr (0, [.ref ya, .int 0])), (a2, .inr (3, [.ref b2, .ref t1, .ref t2, .ref t3, .int 0])), (b2, .inr (0, [.ref yb, .int 0])), (a3, .inr (1, [.ref h1, .ref h2, .ref h3, .int 0, .int 0, .int 0]))] s.heap := hP
  have hl := lv_entry ([.ref a0]) (n := 3) (Nat.le_of_ble_eq_true rfl)
  rw [lg_entry_eq]
  generalize (lg_sl ([.ref a0]) ++ List.replicate (3 - (lg_sl ([.ref a0])).length) Slot.unset).toArray = ls at hl ⊢
  have hl : lv_has ls 3 [(0, .ref a0)] := hl
  refine lv_aload_n hx hb dX6_read_0 rfl (lv_at hl 0 rfl) ?_
  refine va_get (D := (dC, dI)) (ci := 6) (v := .ref a2) (C := RX6) (T := TX6) (N := 7) hx hb hts inAll_6 hown hK hP 0 rfl rfl 1 (by decide) (hts (.fieldLink RX6 21 "LoopEnvelopes" "segments" "LLoopEnvelopes$Segments;") k_67) (fun _ h9 => h9) rfl dX6_read_1 ?_
  refine lv_aload_n hx hb dX6_read_4 rfl (lv_at hl 0 rfl) ?_
  refine va_get (D := (dC, dI)) (ci := 6) (v := .ref a1) (C := RX6) (T := TX6) (N := 7) hx hb hts inAll_6 hown hK hP 0 rfl rfl 0 (by decide) (hts (.fieldLink RX6 14 "LoopEnvelopes" "text" "LLoopEnvelopes$Bytes;") k_60) (fun _ h9 => h9) rfl dX6_read_5 ?_
  have hPc := hP.sub (ws' := [(a2, .inr (3, [.ref b2, .ref t1, .ref t2, .ref t3, .int 0])), (b2, .inr (0, [.ref yb, .int 0])), (a1, .inr (0, [.ref ya, .int 0]))]) [2, 3, 1] rfl
  have hDc := hD.sub (ws' := [(a2, .inr (3, [.ref b2, .ref t1, .ref t2, .ref t3, .int 0])), (b2, .inr (0, [.ref yb, .int 0])), (a1, .inr (0, [.ref ya, .int 0]))]) [2, 3, 1] (by decide) rfl
  have hKc := hK.sub (tys' := []) [] rfl
  have hFc := va_free (wc := [(a2, .inr (3, [.ref b2, .ref t1, .ref t2, .ref t3, .int 0])), (b2, .inr (0, [.ref yb, .int 0])), (a1, .inr (0, [.ref ya, .int 0]))]) hD hS hA [2, 3, 1] rfl
  refine va_callv (va_runV (As := [.ref a1]) (rest := []) ⟨hx, hb, hml, hown, hts⟩ (c_X3_take l dC dI s.heap.size a2 b2 t1 t2 t3 yb a1 ya) (cwV 1 hts gg_RX6_79 rfl rfl rfl (by decide +kernel) ⟨Nat.le_of_ble_eq_true rfl, Nat.le_of_ble_eq_true rfl⟩) ⟨fun a U g mk q => by obtain ⟨q0, q1, qP, qK, qD⟩ := q; exact ⟨q0, q1, qP, va_K.moved (u := U) (U := U.calling g mk a) (Vm.Alike.refl U.vm) qK, qD⟩, va_recv hK hP (ci := 3) (q0 := 2) rfl rfl, fun U hU hW => ⟨rfl, by rw [hU], by rw [hU]; exact hPc, va_K.moved hW.alike hKc, hDc.weaken (fun _ _ _ _ => trivial)⟩⟩ rfl rfl hl.1 rfl (lv_room (Nat.le_of_ble_eq_true rfl)) dX6_read_8 ⟨Nat.le_of_ble_eq_true rfl, Nat.le_of_ble_eq_true rfl⟩) hS (fun q _ h => hFc q h) hFc (fun u t H1 locs ht hvm hw hB hz1 hk1 hS => ?_)
  obtain ⟨hP1, hK1, hD1⟩ := hB
  rw [ht] at hP1
  have hK1 := va_K.moved hvm.symm hK1
  obtain ⟨hP, hD⟩ := va_join (wr := [(a0, .inr (6, [.ref a1, .ref a2, .ref a3, .ref a4, .ref a5, .int (-1), .int 0])), (a3, .inr (1, [.ref h1, .ref h2, .ref h3, .int 0, .int 0, .int 0]))]) (w1 := [(a2, .inr (3, [.ref b2, .ref t1, .ref t2, .ref t3, .int 0])), (b2, .inr (0, [.ref yb, .int 0])), (a1, .inr (0, [.ref ya, .int 0]))]) hP hD [2, 3, 1] [0, 4] rfl rfl (by decide) (by decide) hk1 hFc hP1 hD1
  have hK := (hK.sub (tys' := []) [] rfl).app hK1
  generalize H1 = H at hP hS ⊢
  have hP : va_P (dC, dI) vwCl [(a0, .inr (6, [.ref a1, .ref a2, .ref a3, .ref a4, .ref a5, .int (-1), .int 0])), (a3, .inr (1, [.ref h1, .ref h2, .ref h3, .int 0, .int 0, .int 0])), (a2, .inr (3, [.ref b2, .ref t1, .ref t2, .ref t3, .int 0])), (b2, .inr (0, [.ref yb, .int 0])), (a1, .inr (0, [.ref ya, .int 0]))] H := hP
  have hD : va_D A [(a0, .inr (6, [.ref a1, .ref a2, .ref a3, .ref a4, .ref a5, .int (-1), .int 0])), (a3, .inr (1, [.ref h1, .ref h2, .ref h3, .int 0, .int 0, .int 0])), (a2, .inr (3, [.ref b2, .ref t1, .ref t2, .ref t3, .int 0])), (b2, .inr (0, [.ref yb, .int 0])), (a1, .inr (0, [.ref ya, .int 0]))] := hD
  have hK : va_K (dC, dI) vwCl [] s := hK
  refine lv_aload_n hx hb dX6_read_11 rfl (lv_at hl 0 rfl) ?_
  refine va_get (D := (dC, dI)) (ci := 6) (v := .ref a3) (C := RX6) (T := TX6) (N := 7) hx hb hts inAll_6 hown hK hP 0 rfl rfl 2 (by decide) (hts (.fieldLink RX6 30 "LoopEnvelopes" "frames" "LLoopEnvelopes$Frames;") k_74) (fun _ h9 => h9) rfl dX6_read_12 ?_
  have hPc := hP.sub (ws' := [(a3, .inr (1, [.ref h1, .ref h2, .ref h3, .int 0, .int 0, .int 0]))]) [1] rfl
  have hDc := hD.sub (ws' := [(a3, .inr (1, [.ref h1, .ref h2, .ref h3, .int 0, .int 0, .int 0]))]) [1] (by decide) rfl
  have hKc := hK.sub (tys' := []) [] rfl
  have hFc := va_free (wc := [(a3, .inr (1, [.ref h1, .ref h2, .ref h3, .int 0, .int 0, .int 0]))]) hD hS hA [1] rfl
  refine va_callv (va_runV (As := []) (rest := []) ⟨hx, hb, hml, hown, hts⟩ (c_X1_clear l dC dI H.size a3 h1 h2 h3) (cwV 0 hts gg_RX6_83 rfl rfl rfl (by decide +kernel) ⟨Nat.le_of_ble_eq_true rfl, Nat.le_of_ble_eq_true rfl⟩) ⟨fun a U g mk q => by obtain ⟨q0, q1, qP, qK, qD⟩ := q; exact ⟨q0, q1, qP, va_K.moved (u := U) (U := U.calling g mk a) (Vm.Alike.refl U.vm) qK, qD⟩, va_recv hK hP (ci := 1) (q0 := 1) rfl rfl, fun U hU hW => ⟨rfl, by rw [hU], by rw [hU]; exact hPc, va_K.moved hW.alike hKc, hDc.weaken (fun _ _ _ _ => trivial)⟩⟩ rfl rfl hl.1 rfl (lv_room (Nat.le_of_ble_eq_true rfl)) dX6_read_15 ⟨Nat.le_of_ble_eq_true rfl, Nat.le_of_ble_eq_true rfl⟩) hS (fun q _ h => hFc q h) hFc (fun u t H1 locs ht hvm hw hB hz1 hk1 hS => ?_)
  obtain ⟨hP1, hK1, hD1⟩ := hB
  rw [ht] at hP1
  have hK1 := va_K.moved hvm.symm hK1
  obtain ⟨hP, hD⟩ := va_join (wr := [(a0, .inr (6, [.ref a1, .ref a2, .ref a3, .ref a4, .ref a5, .int (-1), .int 0])), (a2, .inr (3, [.ref b2, .ref t1, .ref t2, .ref t3, .int 0])), (b2, .inr (0, [.ref yb, .int 0])), (a1, .inr (0, [.ref ya, .int 0]))]) (w1 := [(a3, .inr (1, [.ref h1, .ref h2, .ref h3, .int 0, .int 0, .int 0]))]) hP hD [1] [0, 2, 3, 4] rfl rfl (by decide) (by decide) hk1 hFc hP1 hD1
  have hK := (hK.sub (tys' := []) [] rfl).app hK1
  generalize H1 = H at hP hS ⊢
  have hP : va_P (dC, dI) vwCl [(a0, .inr (6, [.ref a1, .ref a2, .ref a3, .ref a4, .ref a5, .int (-1), .int 0])), (a2, .inr (3, [.ref b2, .ref t1, .ref t2, .ref t3, .int 0])), (b2, .inr (0, [.ref yb, .int 0])), (a1, .inr (0, [.ref ya, .int 0])), (a3, .inr (1, [.ref h1, .ref h2, .ref h3, .int 0, .int 0, .int 0]))] H := hP
  have hD : va_D A [(a0, .inr (6, [.ref a1, .ref a2, .ref a3, .ref a4, .ref a5, .int (-1), .int 0])), (a2, .inr (3, [.ref b2, .ref t1, .ref t2, .ref t3, .int 0])), (b2, .inr (0, [.ref yb, .int 0])), (a1, .inr (0, [.ref ya, .int 0])), (a3, .inr (1, [.ref h1, .ref h2, .ref h3, .int 0, .int 0, .int 0]))] := hD
  have hK : va_K (dC, dI) vwCl [] s := hK
  refine lv_aload_n hx hb dX6_read_18 rfl (lv_at hl 0 rfl) ?_
  refine lv_iconst (v := (-1)) hx hb dX6_read_19 (by decide) ?_
  refine va_put (D := (dC, dI)) (ci := 6) (v := .int (-1)) (ty := .int) (C := RX6) (T := TX6) (N := 7) hx hb hts inAll_6 tyX6 tyX6_ok nmX6 hown hK hP hD hS 0 rfl rfl 5 (by decide) (hts (.fieldLink RX6 50 "LoopEnvelopes" "place" "I") k_89) (fun _ h9 => h9) rfl (by decide +kernel) rfl rfl (Nat.le_of_ble_eq_true rfl) dX6_read_20 (fun H locs hP hD hS => ?_)
  have hP : va_P (dC, dI) vwCl [(a0, .inr (6, [.ref a1, .ref a2, .ref a3, .ref a4, .ref a5, .int (-1), .int 0])), (a2, .inr (3, [.ref b2, .ref t1, .ref t2, .ref t3, .int 0])), (b2, .inr (0, [.ref yb, .int 0])), (a1, .inr (0, [.ref ya, .int 0])), (a3, .inr (1, [.ref h1, .ref h2, .ref h3, .int 0, .int 0, .int 0]))] H := hP
  have hD : va_D A [(a0, .inr (6, [.ref a1, .ref a2, .ref a3, .ref a4, .ref a5, .int (-1), .int 0])), (a2, .inr (3, [.ref b2, .ref t1, .ref t2, .ref t3, .int 0])), (b2, .inr (0, [.ref yb, .int 0])), (a1, .inr (0, [.ref ya, .int 0])), (a3, .inr (1, [.ref h1, .ref h2, .ref h3, .int 0, .int 0, .int 0]))] := hD
  refine lv_aload_n hx hb dX6_read_23 rfl (lv_at hl 0 rfl) ?_
  refine va_get (D := (dC, dI)) (ci := 6) (v := .ref a2) (C := RX6) (T := TX6) (N := 7) hx hb hts inAll_6 hown hK hP 0 rfl rfl 1 (by decide) (hts (.fieldLink RX6 21 "LoopEnvelopes" "segments" "LLoopEnvelopes$Segments;") k_67) (fun _ h9 => h9) rfl dX6_read_24 ?_
  have hPc := hP.sub (ws' := [(a2, .inr (3, [.ref b2, .ref t1, .ref t2, .ref t3, .int 0])), (b2, .inr (0, [.ref yb, .int 0]))]) [1, 2] rfl
  have hDc := hD.sub (ws' := [(a2, .inr (3, [.ref b2, .ref t1, .ref t2, .ref t3, .int 0])), (b2, .inr (0, [.ref yb, .int 0]))]) [1, 2] (by decide) rfl
  have hKc := hK.sub (tys' := []) [] rfl
  have hFc := va_free (wc := [(a2, .inr (3, [.ref b2, .ref t1, .ref t2, .ref t3, .int 0])), (b2, .inr (0, [.ref yb, .int 0]))]) hD hS hA [1, 2] rfl
  refine va_calli (va_runV (As := []) (rest := []) ⟨hx, hb, hml, hown, hts⟩ (c_X3_opens l dC dI H.size a2 b2 t1 t2 t3 yb) (cwV 0 hts gg_RX6_86 rfl rfl rfl (by decide +kernel) ⟨Nat.le_of_ble_eq_true rfl, Nat.le_of_ble_eq_true rfl⟩) ⟨fun a U g mk q => by obtain ⟨q0, q1, qP, qK, qD⟩ := q; exact ⟨q0, q1, qP, va_K.moved (u := U) (U := U.calling g mk a) (Vm.Alike.refl U.vm) qK, qD⟩, va_recv hK hP (ci := 3) (q0 := 1) rfl rfl, fun U hU hW => ⟨rfl, by rw [hU], by rw [hU]; exact hPc, va_K.moved hW.alike hKc, hDc.weaken (fun _ _ _ _ => trivial)⟩⟩ rfl rfl hl.1 rfl (lv_room (Nat.le_of_ble_eq_true rfl)) dX6_read_27 ⟨Nat.le_of_ble_eq_true rfl, Nat.le_of_ble_eq_true rfl⟩) hS (fun q _ h => hFc q h) hFc (fun r3 u t H1 locs ht hvm hw hB hz1 hk1 hS => ?_)
  obtain ⟨hP1, hK1, hD1⟩ := hB
  rw [ht] at hP1
  have hK1 := va_K.moved hvm.symm hK1
  obtain ⟨hP, hD⟩ := va_join (wr := [(a0, .inr (6, [.ref a1, .ref a2, .ref a3, .ref a4, .ref a5, .int (-1), .int 0])), (a1, .inr (0, [.ref ya, .int 0])), (a3, .inr (1, [.ref h1, .ref h2, .ref h3, .int 0, .int 0, .int 0]))]) (w1 := [(a2, .inr (3, [.ref b2, .ref t1, .ref t2, .ref t3, .int 0])), (b2, .inr (0, [.ref yb, .int 0]))]) hP hD [1, 2] [0, 3, 4] rfl rfl (by decide) (by decide) hk1 hFc hP1 hD1
  have hK := (hK.sub (tys' := []) [] rfl).app hK1
  generalize H1 = H at hP hS ⊢
  have hP : va_P (dC, dI) vwCl [(a0, .inr (6, [.ref a1, .ref a2, .ref a3, .ref a4, .ref a5, .int (-1), .int 0])), (a1, .inr (0, [.ref ya, .int 0])), (a3, .inr (1, [.ref h1, .ref h2, .ref h3, .int 0, .int 0, .int 0])), (a2, .inr (3, [.ref b2, .ref t1, .ref t2, .ref t3, .int 0])), (b2, .inr (0, [.ref yb, .int 0]))] H := hP
  have hD : va_D A [(a0, .inr (6, [.ref a1, .ref a2, .ref a3, .ref a4, .ref a5, .int (-1), .int 0])), (a1, .inr (0, [.ref ya, .int 0])), (a3, .inr (1, [.ref h1, .ref h2, .ref h3, .int 0, .int 0, .int 0])), (a2, .inr (3, [.ref b2, .ref t1, .ref t2, .ref t3, .int 0])), (b2, .inr (0, [.ref yb, .int 0]))] := hD
  have hK : va_K (dC, dI) vwCl [] s := hK
  have hw : r3 = 0 := hw
  subst hw
  refine lv_if_eq (tgt := 40) hx hb dX6_read_30 (by decide) (fun c_30 => ?_) (fun c_30 => absurd (rfl) c_30)
  refine lv_aload_n hx hb dX6_read_40 rfl (lv_at hl 0 rfl) ?_
  refine lv_iconst (v := 1) hx hb dX6_read_41 (by decide) ?_
  refine lv_iconst (v := 0) hx hb dX6_read_42 (by decide) ?_
  have hPc := hP.sub (ws' := [(a0, .inr (6, [.ref a1, .ref a2, .ref a3, .ref a4, .ref a5, .int (-1), .int 0]))]) [0] rfl
  have hDc := hD.sub (ws' := [(a0, .inr (6, [.ref a1, .ref a2, .ref a3, .ref a4, .ref a5, .int (-1), .int 0]))]) [0] (by decide) rfl
  have hKc := hK.sub (tys' := []) [] rfl
  have hFc := va_free (wc := [(a0, .inr (6, [.ref a1, .ref a2, .ref a3, .ref a4, .ref a5, .int (-1), .int 0]))]) hD hS hA [0] rfl
  refine va_calli (va_runV (As := [.int 1, .int 0]) (rest := []) ⟨hx, hb, hml, hown, hts⟩ (c_X6_tell l dC dI H.size a0 a1 a2 a3 a4 a5 1 0) (cwV 2 hts gg_RX6_93 rfl rfl rfl (by decide +kernel) ⟨Nat.le_of_ble_eq_true rfl, Nat.le_of_ble_eq_true rfl⟩) ⟨fun a U g mk q => by obtain ⟨q0, q1, qP, qK, qD⟩ := q; exact ⟨q0, q1, qP, va_K.moved (u := U) (U := U.calling g mk a) (Vm.Alike.refl U.vm) qK, qD⟩, va_recv hK hP (ci := 6) (q0 := 0) rfl rfl, fun U hU hW => ⟨rfl, by rw [hU], by rw [hU]; exact hPc, va_K.moved hW.alike hKc, hDc.weaken (fun _ _ _ _ => trivial)⟩⟩ rfl rfl hl.1 rfl (lv_room (Nat.le_of_ble_eq_true rfl)) dX6_read_43 ⟨Nat.le_of_ble_eq_true rfl, Nat.le_of_ble_eq_true rfl⟩) hS (fun q _ h => hFc q h) hFc (fun r4 u t H1 locs ht hvm hw hB hz1 hk1 hS => ?_)
  obtain ⟨hP1, hK1, hD1⟩ := hB
  rw [ht] at hP1
  have hK1 := va_K.moved hvm.symm hK1
  obtain ⟨hP, hD⟩ := va_join (wr := [(a1, .inr (0, [.ref ya, .int 0])), (a3, .inr (1, [.ref h1, .ref h2, .ref h3, .int 0, .int 0, .int 0])), (a2, .inr (3, [.ref b2, .ref t1, .ref t2, .ref t3, .int 0])), (b2, .inr (0, [.ref yb, .int 0]))]) (w1 := [(a0, .inr (6, [.ref a1, .ref a2, .ref a3, .ref a4, .ref a5, .int 0, .int 0]))]) hP hD [0] [1, 2, 3, 4] rfl rfl (by decide) (by decide) hk1 hFc hP1 hD1
  have hK := (hK.sub (tys' := []) [] rfl).app hK1
  generalize H1 = H at hP hS ⊢
  have hP : va_P (dC, dI) vwCl [(a1, .inr (0, [.ref ya, .int 0])), (a3, .inr (1, [.ref h1, .ref h2, .ref h3, .int 0, .int 0, .int 0])), (a2, .inr (3, [.ref b2, .ref t1, .ref t2, .ref t3, .int 0])), (b2, .inr (0, [.ref yb, .int 0])), (a0, .inr (6, [.ref a1, .ref a2, .ref a3, .ref a4, .ref a5, .int 0, .int 0]))] H := hP
  have hD : va_D A [(a1, .inr (0, [.ref ya, .int 0])), (a3, .inr (1, [.ref h1, .ref h2, .ref h3, .int 0, .int 0, .int 0])), (a2, .inr (3, [.ref b2, .ref t1, .ref t2, .ref t3, .int 0])), (b2, .inr (0, [.ref yb, .int 0])), (a0, .inr (6, [.ref a1, .ref a2, .ref a3, .ref a4, .ref a5, .int 0, .int 0]))] := hD
  have hK : va_K (dC, dI) vwCl [] s := hK
  have hw : r4 = 1 := hw
  subst hw
  refine lv_istore_n (lv' := [(1, .int 1), (0, .ref a0)]) hx hb dX6_read_46 rfl hl (by decide) rfl (fun ls hl => ?_)
  refine lv_aload_n hx hb dX6_read_47 rfl (lv_at hl 1 rfl) ?_
  refine lv_iload_n hx hb dX6_read_48 rfl (lv_at hl 0 rfl) ?_
  refine lv_if_ne (tgt := 56) hx hb dX6_read_49 (by decide) (fun c_49 => ?_) (fun c_49 => absurd c_49 (by decide))
  refine lv_iconst (v := 0) hx hb dX6_read_56 (by decide) ?_
  refine va_put (D := (dC, dI)) (ci := 6) (v := .int 0) (ty := .boolean) (C := RX6) (T := TX6) (N := 7) hx hb hts inAll_6 tyX6 tyX6_ok nmX6 hown hK hP hD hS 4 rfl rfl 6 (by decide) (hts (.fieldLink RX6 54 "LoopEnvelopes" "taken" "Z") k_90) (fun _ h9 => h9) rfl (by decide +kernel) rfl rfl (Nat.le_of_ble_eq_true rfl) dX6_read_57 (fun H locs hP hD hS => ?_)
  have hP : va_P (dC, dI) vwCl [(a1, .inr (0, [.ref ya, .int 0])), (a3, .inr (1, [.ref h1, .ref h2, .ref h3, .int 0, .int 0, .int 0])), (a2, .inr (3, [.ref b2, .ref t1, .ref t2, .ref t3, .int 0])), (b2, .inr (0, [.ref yb, .int 0])), (a0, .inr (6, [.ref a1, .ref a2, .ref a3, .ref a4, .ref a5, .int 0, .int 0]))] H := hP
  have hD : va_D A [(a1, .inr (0, [.ref ya, .int 0])), (a3, .inr (1, [.ref h1, .ref h2, .ref h3, .int 0, .int 0, .int 0])), (a2, .inr (3, [.ref b2, .ref t1, .ref t2, .ref t3, .int 0])), (b2, .inr (0, [.ref yb, .int 0])), (a0, .inr (6, [.ref a1, .ref a2, .ref a3, .ref a4, .ref a5, .int 0, .int 0]))] := hD
  refine lv_iconst (v := 0) hx hb dX6_read_60 (by decide) ?_
  refine lv_istore_n (lv' := [(2, .int 0), (1, .int 1), (0, .ref a0)]) hx hb dX6_read_61 rfl hl (by decide) rfl (fun ls hl => ?_)
  refine lv_aload_n hx hb dX6_read_62 rfl (lv_at hl 2 rfl) ?_
  refine va_get (D := (dC, dI)) (ci := 6) (v := .int 0) (C := RX6) (T := TX6) (N := 7) hx hb hts inAll_6 hown hK hP 4 rfl rfl 6 (by decide) (hts (.fieldLink RX6 54 "LoopEnvelopes" "taken" "Z") k_90) (fun _ h9 => h9) rfl dX6_read_63 ?_
  refine lv_if_eq (tgt := 94) hx hb dX6_read_66 (by decide) (fun c_66 => ?_) (fun c_66 => absurd (rfl) c_66)
  refine lv_iload_n hx hb dX6_read_94 rfl (lv_at hl 1 rfl) ?_
  have hP9 := hP.sub (ws' := []) [] rfl
  have hD9 := hD.sub (ws' := []) [] (by decide) rfl
  have hK9 := hK.sub (tys' := []) [] rfl
  exact W.iret (v := 1) hx hb hr (fun t ht hW => ⟨⟨1, (), rfl, rfl, by rw [ht]; exact hP9, va_K.moved hW.alike hK9, hD9⟩, hS.F ht⟩) hS.2.2 dX6_read_95
end
section
set_option maxHeartbeats 4000000 in
set_option maxRecDepth 100000 in
theorem xf_loop {p : Program} {l : Launch} {e : Env} {s : State} {m : MethodId} {args : Array Value} {below : List Frame} {meth : Method} {c : Code} {Q : State → Prop} {dC : Nat → ClassId} {dI : Nat → Nat → Nat} {A : Nat → Prop} {a0 a1 a2 a3 a4 a5 ya : Nat} {cA : ClassId} {ww : Int64} {k0 : Int32} {n : Nat} (hn : n ≤ 8) (hx : p.tables.exec = Jvm.exec) (hb : c.code = cX6_feed) (hml : c.maxLocals = 5) (hts : ∀ w ∈ pwAll, w.before args s = true) (hown : s.vm.findClass RX6 = some m.cls) (hK : va_K (dC, dI) vwCl [(cA, .byte)] s) (hA : ∀ q : Nat, s.heap.size ≤ q → A q)
    (hexit : ∀ (f0 : Nat → Int32) (H : Heap) (locs : List Loc) (ls : Array Slot), va_P (dC, dI) vwCl [(a0, .inr (6, [.ref a1, .ref a2, .ref a3, .ref a4, .ref a5, .int (-1), .int 0])), (a1, .inr (0, [.ref ya, .int (nI n)])), (ya, .inl (cA, 1200, .inl f0))] H → va_D A [(a0, .inr (6, [.ref a1, .ref a2, .ref a3, .ref a4, .ref a5, .int (-1), .int 0])), (a1, .inr (0, [.ref ya, .int (nI n)])), (ya, .inl (cA, 1200, .inl f0))] → va_S A s.heap H locs → lv_has ls 5 [(0, .ref a0), (1, .long ww), (3, .int k0)] → W p l e ({ frames := 1, cells := 0, slots := 0, locals := 21 } : Room) s m args below meth c H locs 0 0 Q (F0 m 68 ls [])) :
    ∀ (k j : Nat), j + k = n → ∀ (i : Int32) (f0 : Nat → Int32) (H : Heap) (locs : List Loc) (ls : Array Slot), i = nI k - 1 → va_P (dC, dI) vwCl [(a0, .inr (6, [.ref a1, .ref a2, .ref a3, .ref a4, .ref a5, .int (-1), .int 0])), (a1, .inr (0, [.ref ya, .int (nI j)])), (ya, .inl (cA, 1200, .inl f0))] H → va_D A [(a0, .inr (6, [.ref a1, .ref a2, .ref a3, .ref a4, .ref a5, .int (-1), .int 0])), (a1, .inr (0, [.ref ya, .int (nI j)])), (ya, .inl (cA, 1200, .inl f0))] → va_S A s.heap H locs → lv_has ls 5 [(4, .int i), (0, .ref a0), (1, .long ww), (3, .int k0)] → W p l e ({ frames := 1, cells := 0, slots := 0, locals := 21 } : Room) s m args below meth c H locs 0 0 Q (F0 m 37 ls []) := by
  intro k
  induction k with
  | zero =>
    intro j hj i f0 H locs ls ei hP hD hS hl
    have ej : j = n := by omega
    subst ej
    have en : i < 0 := by rw [ei]; decide
    refine lv_iload hx hb dX6_feed_37 (lv_at hl 0 rfl) ?_
    refine lv_if_lt (tgt := 68) hx hb dX6_feed_39 (by decide) (fun c_39 => ?_) (fun c_39 => absurd (en) c_39)
    exact hexit _ _ _ _ hP hD hS (lv_sub hl [1, 2, 3] rfl)
  | succ k ih =>
    intro j hj i f0 H locs ls ei hP hD hS hl
    have ei' : i = nI k := by rw [ei]; exact nI_pred k
    have en : ¬ i < 0 := by rw [ei']; exact nI_pos (by omega)
    have g1 : j < 1200 := by omega
    refine lv_iload hx hb dX6_feed_37 (lv_at hl 0 rfl) ?_
    refine lv_if_lt (tgt := 68) hx hb dX6_feed_39 (by decide) (fun c_39 => absurd c_39 (en)) (fun c_39 => ?_)
    refine lv_aload_n hx hb dX6_feed_42 rfl (lv_at hl 1 rfl) ?_
    refine va_get (D := (dC, dI)) (ci := 6) (v := .ref a1) (C := RX6) (T := TX6) (N := 7) hx hb hts inAll_6 hown hK hP 0 rfl rfl 0 (by decide) (hts (.fieldLink RX6 14 "LoopEnvelopes" "text" "LLoopEnvelopes$Bytes;") k_60) (fun _ h9 => h9) rfl dX6_feed_43 ?_
    refine lv_lload_n hx hb dX6_feed_46 rfl (lv_at hl 2 rfl) ?_
    refine lv_bipush (v := 8) hx hb dX6_feed_47 (by decide) ?_
    refine lv_iload hx hb dX6_feed_49 (lv_at hl 0 rfl) ?_
    refine lv_imul hx hb dX6_feed_51 ?_
    refine lv_lushr hx hb dX6_feed_52 rfl ?_
    refine lv_ldc2 hx hb hown (hts (.constantLong RX6 62 (255)) k_146) dX6_feed_53 ?_
    refine lv_land hx hb dX6_feed_56 ?_
    refine lv_topl (fun w1 ew1 => ?_)
    refine lv_l2i hx hb dX6_feed_57 rfl ?_
    refine lv_topi (fun b2 eb2 => ?_)
    have hPc := hP.sub (ws' := [(a1, .inr (0, [.ref ya, .int (nI j)])), (ya, .inl (cA, 1200, .inl f0))]) [1, 2] rfl
    have hDc := hD.sub (ws' := [(a1, .inr (0, [.ref ya, .int (nI j)])), (ya, .inl (cA, 1200, .inl f0))]) [1, 2] (by decide) rfl
    have hKc := hK.sub (tys' := [(cA, .byte)]) [0] rfl
    have hFc := va_free (wc := [(a1, .inr (0, [.ref ya, .int (nI j)])), (ya, .inl (cA, 1200, .inl f0))]) hD hS hA [1, 2] rfl
    refine va_calli (va_runV (As := [.int b2]) (rest := []) ⟨hx, hb, hml, hown, hts⟩ (c_X0_append l dC dI H.size a1 ya cA f0 j b2 (g1)) (cwV 1 hts gg_RX6_64 rfl rfl rfl (by decide +kernel) ⟨Nat.le_of_ble_eq_true rfl, Nat.le_of_ble_eq_true rfl⟩) ⟨fun a U g mk q => by obtain ⟨q0, q1, qP, qK, qD⟩ := q; exact ⟨q0, q1, qP, va_K.moved (u := U) (U := U.calling g mk a) (Vm.Alike.refl U.vm) qK, qD⟩, va_recv hK hP (ci := 0) (q0 := 1) rfl rfl, fun U hU hW => ⟨rfl, by rw [hU], by rw [hU]; exact hPc, va_K.moved hW.alike hKc, hDc.weaken (fun _ _ _ _ => trivial)⟩⟩ rfl rfl hl.1 rfl (lv_room (Nat.le_of_ble_eq_true rfl)) dX6_feed_58 ⟨Nat.le_of_ble_eq_true rfl, Nat.le_of_ble_eq_true rfl⟩) hS (fun q _ h => hFc q h) hFc (fun r3 u t H1 locs ht hvm hw hB hz1 hk1 hS => ?_)
    obtain ⟨fz4, hP1, hK1, hD1⟩ := hB
    rw [ht] at hP1
    have hK1 := va_K.moved hvm.symm hK1
    obtain ⟨hP, hD⟩ := va_join (wr := [(a0, .inr (6, [.ref a1, .ref a2, .ref a3, .ref a4, .ref a5, .int (-1), .int 0]))]) (w1 := [(a1, .inr (0, [.ref ya, .int (nI (j + 1))])), (ya, .inl (cA, 1200, .inl fz4))]) hP hD [1, 2] [0] rfl rfl (by decide) (by decide) hk1 hFc hP1 hD1
    have hK := (hK.sub (tys' := []) [] rfl).app hK1
    generalize H1 = H at hP hS ⊢
    have hP : va_P (dC, dI) vwCl [(a0, .inr (6, [.ref a1, .ref a2, .ref a3, .ref a4, .ref a5, .int (-1), .int 0])), (a1, .inr (0, [.ref ya, .int (nI (j + 1))])), (ya, .inl (cA, 1200, .inl fz4))] H := hP
    have hD : va_D A [(a0, .inr (6, [.ref a1, .ref a2, .ref a3, .ref a4, .ref a5, .int (-1), .int 0])), (a1, .inr (0, [.ref ya, .int (nI (j + 1))])), (ya, .inl (cA, 1200, .inl fz4))] := hD
    have hK : va_K (dC, dI) vwCl [(cA, .byte)] s := hK
    have hw : r3 = 1 := hw
    subst hw
    refine lv_pop hx hb dX6_feed_61 rfl ?_
    refine lv_iinc (v := (nI k - 1)) (lv' := [(4, .int (nI k - 1)), (0, .ref a0), (1, .long ww), (3, .int k0)]) hx hb dX6_feed_62 hl (k := 0) rfl (by rw [ei']; exact pf_dec (nI k)) (by decide) rfl (fun ls hl => ?_)
    refine lv_goto (tgt := 37) hx hb dX6_feed_65 (by decide) ?_
    exact ih (j + 1) (by omega) _ _ _ _ _ rfl hP hD hS (lv_sub hl [0, 1, 2, 3] rfl)

set_option maxHeartbeats 4000000 in
set_option maxRecDepth 100000 in
theorem c_X6_feed (l : Launch) (dC : Nat → ClassId) (dI : Nat → Nat → Nat) (sz : Nat) (a0 : Nat) (a1 : Nat) (a2 : Nat) (a3 : Nat) (a4 : Nat) (a5 : Nat) (ya : Nat) (cA : ClassId) (f0 : (Nat → Int32)) (ww : Int64) (k0 : Int32) : Met l yX6_feed pwX6_feed ({ frames := 1, cells := 0, slots := 0, locals := 21 } : Room) (va_Pc [.ref a0, .long ww, .int k0] (fun U => U.heap.size = sz ∧ va_P (dC, dI) vwCl [(a0, .inr (6, [.ref a1, .ref a2, .ref a3, .ref a4, .ref a5, .int (-1), .int 0])), (a1, .inr (0, [.ref ya, .int 0])), (ya, .inl (cA, 1200, .inl f0))] U.heap ∧ va_K (dC, dI) vwCl [(cA, .byte)] U ∧ va_D (fun _ => True) [(a0, .inr (6, [.ref a1, .ref a2, .ref a3, .ref a4, .ref a5, .int (-1), .int 0])), (a1, .inr (0, [.ref ya, .int 0])), (ya, .inl (cA, 1200, .inl f0))])) (va_Qi (fun (r : Int32) (_ : Unit) => r = pf_feed k0) (fun (_ : Unit) (t : State) => va_P (dC, dI) vwCl [] t.heap ∧ va_K (dC, dI) vwCl [] t ∧ va_D (va_A [(a0, .inr (6, [.ref a1, .ref a2, .ref a3, .ref a4, .ref a5, .int (-1), .int 0])), (a1, .inr (0, [.ref ya, .int 0])), (ya, .inl (cA, 1200, .inl f0))] sz) []) (va_A [(a0, .inr (6, [.ref a1, .ref a2, .ref a3, .ref a4, .ref a5, .int (-1), .int 0])), (a1, .inr (0, [.ref ya, .int 0])), (ya, .inl (cA, 1200, .inl f0))] sz)) 0 0 (va_A [(a0, .inr (6, [.ref a1, .ref a2, .ref a3, .ref a4, .ref a5, .int (-1), .int 0])), (a1, .inr (0, [.ref ya, .int 0])), (ya, .inl (cA, 1200, .inl f0))] sz) := by
  refine Met.ofW (cc := cX6_feed) (maxL := 5) (ret := (some .int)) (by decide) rfl ?_
  intro p e s m args below meth c s₁ B hml hv
  obtain ⟨rfl, hsz, hP, hK, hD0⟩ := hv
  have hx := B.exec
  have hb := B.bytes
  have hr := B.returns
  have hts0 := atoms_spec (ws := pwX6_feed) B.pre
  have hts := fun w (h : w ∈ pwAll) => hts0 w (List.mem_cons_of_mem _ h)
  have hown : s.vm.findClass RX6 = some m.cls := findClass_of_methodNamed B.named
  have hlocks := B.notSynchronized
  subst hsz
  have hD := hD0.self (sz := s.heap.size)
  generalize hAe : va_A [(a0, .inr (6, [.ref a1, .ref a2, .ref a3, .ref a4, .ref a5, .int (-1), .int 0])), (a1, .inr (0, [.ref ya, .int 0])), (ya, .inl (cA, 1200, .inl f0))] s.heap.size = A at hD ⊢
  have hA : ∀ q : Nat, s.heap.size ≤ q → A q := fun q h => by rw [← hAe]; exact Or.inr h
  have hS : va_S A s.heap s.heap [] := va_S.rf
  have hP : va_P (dC, dI) vwCl [(a0, .inr (6, [.ref a1, .ref a2, .ref a3, .ref a4, .ref a5, .int (-1), .int 0])), (a1, .inr (0, [.ref ya, .int 0])), (ya, .inl (cA, 1200, .inl f0))] s.heap := hP
  have hl := lv_entry ([.ref a0, .long ww, .int k0]) (n := 5) (Nat.le_of_ble_eq_true rfl)
  rw [lg_entry_eq]
  generalize (lg_sl ([.ref a0, .long ww, .int k0]) ++ List.replicate (5 - (lg_sl ([.ref a0, .long ww, .int k0])).length) Slot.unset).toArray = ls at hl ⊢
  have hl : lv_has ls 5 [(0, .ref a0), (1, .long ww), (3, .int k0)] := hl
  refine lv_iload_n hx hb dX6_feed_0 rfl (lv_at hl 2 rfl) ?_
  refine lv_iconst (v := 1) hx hb dX6_feed_1 (by decide) ?_
  refine lv_icmp_lt (tgt := 11) hx hb dX6_feed_2 (by decide) (fun c_2 => ?_) (fun c_2 => ?_)
  · skip
    refine lv_bipush (v := (-3)) hx hb dX6_feed_11 (by decide) ?_
    have hP9 := hP.sub (ws' := []) [] rfl
    have hD9 := hD.sub (ws' := []) [] (by decide) rfl
    have hK9 := hK.sub (tys' := []) [] rfl
    exact W.iret (v := (-3)) hx hb hr (fun t ht hW => ⟨⟨(-3), (), rfl, by unfold pf_feed; rw [if_pos c_2], by rw [ht]; exact hP9, va_K.moved hW.alike hK9, hD9⟩, hS.F ht⟩) hS.2.2 dX6_feed_13
  · skip
    refine lv_iload_n hx hb dX6_feed_5 rfl (lv_at hl 2 rfl) ?_
    refine lv_bipush (v := 8) hx hb dX6_feed_6 (by decide) ?_
    refine lv_icmp_le (tgt := 14) hx hb dX6_feed_8 (by decide) (fun c_8 => ?_) (fun c_8 => ?_)
    · skip
      refine lv_aload_n hx hb dX6_feed_14 rfl (lv_at hl 0 rfl) ?_
      refine va_get (D := (dC, dI)) (ci := 6) (v := .ref a1) (C := RX6) (T := TX6) (N := 7) hx hb hts inAll_6 hown hK hP 0 rfl rfl 0 (by decide) (hts (.fieldLink RX6 14 "LoopEnvelopes" "text" "LLoopEnvelopes$Bytes;") k_60) (fun _ h9 => h9) rfl dX6_feed_15 ?_
      have hPc := hP.sub (ws' := [(a1, .inr (0, [.ref ya, .int 0]))]) [1] rfl
      have hDc := hD.sub (ws' := [(a1, .inr (0, [.ref ya, .int 0]))]) [1] (by decide) rfl
      have hKc := hK.sub (tys' := []) [] rfl
      have hFc := va_free (wc := [(a1, .inr (0, [.ref ya, .int 0]))]) hD hS hA [1] rfl
      refine va_calli (va_runV (As := []) (rest := []) ⟨hx, hb, hml, hown, hts⟩ (c_X0_length l dC dI s.heap.size a1 ya 0) (cwV 0 hts gg_RX6_58 rfl rfl rfl (by decide +kernel) ⟨Nat.le_of_ble_eq_true rfl, Nat.le_of_ble_eq_true rfl⟩) ⟨fun a U g mk q => by obtain ⟨q0, q1, qP, qK, qD⟩ := q; exact ⟨q0, q1, qP, va_K.moved (u := U) (U := U.calling g mk a) (Vm.Alike.refl U.vm) qK, qD⟩, va_recv hK hP (ci := 0) (q0 := 1) rfl rfl, fun U hU hW => ⟨rfl, by rw [hU], by rw [hU]; exact hPc, va_K.moved hW.alike hKc, hDc.weaken (fun _ _ _ _ => trivial)⟩⟩ rfl rfl hl.1 rfl (lv_room (Nat.le_of_ble_eq_true rfl)) dX6_feed_18 ⟨Nat.le_of_ble_eq_true rfl, Nat.le_of_ble_eq_true rfl⟩) hS (fun q _ h => hFc q h) hFc (fun r1 u t H1 locs ht hvm hw hB hz1 hk1 hS => ?_)
      obtain ⟨hP1, hK1, hD1⟩ := hB
      rw [ht] at hP1
      have hK1 := va_K.moved hvm.symm hK1
      obtain ⟨hP, hD⟩ := va_join (wr := [(a0, .inr (6, [.ref a1, .ref a2, .ref a3, .ref a4, .ref a5, .int (-1), .int 0])), (ya, .inl (cA, 1200, .inl f0))]) (w1 := [(a1, .inr (0, [.ref ya, .int 0]))]) hP hD [1] [0, 2] rfl rfl (by decide) (by decide) hk1 hFc hP1 hD1
      have hK := (hK.sub (tys' := [(cA, .byte)]) [0] rfl).app hK1
      generalize H1 = H at hP hS ⊢
      have hP : va_P (dC, dI) vwCl [(a0, .inr (6, [.ref a1, .ref a2, .ref a3, .ref a4, .ref a5, .int (-1), .int 0])), (ya, .inl (cA, 1200, .inl f0)), (a1, .inr (0, [.ref ya, .int 0]))] H := hP
      have hD : va_D A [(a0, .inr (6, [.ref a1, .ref a2, .ref a3, .ref a4, .ref a5, .int (-1), .int 0])), (ya, .inl (cA, 1200, .inl f0)), (a1, .inr (0, [.ref ya, .int 0]))] := hD
      have hK : va_K (dC, dI) vwCl [(cA, .byte)] s := hK
      have hw : r1 = 0 := hw
      subst hw
      refine lv_iload_n hx hb dX6_feed_21 rfl (lv_at hl 2 rfl) ?_
      refine lv_iadd hx hb dX6_feed_22 ?_
      refine pf_top (y := k0) (Int32.zero_add k0) ?_
      refine lv_sipush (v := 1200) hx hb dX6_feed_23 (by decide) ?_
      refine lv_icmp_le (tgt := 32) hx hb dX6_feed_26 (by decide) (fun c_26 => ?_) (fun c_26 => absurd (pf_le1200 c_8) c_26)
      refine lv_iload_n hx hb dX6_feed_32 rfl (lv_at hl 2 rfl) ?_
      refine lv_iconst (v := 1) hx hb dX6_feed_33 (by decide) ?_
      refine lv_isub hx hb dX6_feed_34 ?_
      refine lv_istore (lv' := [(4, .int (k0 - 1)), (0, .ref a0), (1, .long ww), (3, .int k0)]) hx hb dX6_feed_35 hl (by decide) rfl (fun ls hl => ?_)
      obtain ⟨n, hn, ek⟩ := pf_small c_2 c_8
      have hP := hP.sub (ws' := [(a0, .inr (6, [.ref a1, .ref a2, .ref a3, .ref a4, .ref a5, .int (-1), .int 0])), (a1, .inr (0, [.ref ya, .int 0])), (ya, .inl (cA, 1200, .inl f0))]) [0, 2, 1] rfl
      have hD := hD.sub (ws' := [(a0, .inr (6, [.ref a1, .ref a2, .ref a3, .ref a4, .ref a5, .int (-1), .int 0])), (a1, .inr (0, [.ref ya, .int 0])), (ya, .inl (cA, 1200, .inl f0))]) [0, 2, 1] (by decide) rfl
      refine xf_loop (n := n) (l := l) (dC := dC) (dI := dI) (A := A) (cA := cA) hn hx hb hml hts hown hK hA (fun f0 H locs ls hP hD hS hl => ?_) n 0 (Nat.zero_add n) (k0 - 1) f0 _ _ _ (by rw [ek]) hP hD hS (lv_sub hl [0, 1, 2, 3] rfl)
      refine lv_aload_n hx hb dX6_feed_68 rfl (lv_at hl 0 rfl) ?_
      refine va_get (D := (dC, dI)) (ci := 6) (v := .ref a1) (C := RX6) (T := TX6) (N := 7) hx hb hts inAll_6 hown hK hP 0 rfl rfl 0 (by decide) (hts (.fieldLink RX6 14 "LoopEnvelopes" "text" "LLoopEnvelopes$Bytes;") k_60) (fun _ h9 => h9) rfl dX6_feed_69 ?_
      have hPc := hP.sub (ws' := [(a1, .inr (0, [.ref ya, .int (nI n)]))]) [1] rfl
      have hDc := hD.sub (ws' := [(a1, .inr (0, [.ref ya, .int (nI n)]))]) [1] (by decide) rfl
      have hKc := hK.sub (tys' := []) [] rfl
      have hFc := va_free (wc := [(a1, .inr (0, [.ref ya, .int (nI n)]))]) hD hS hA [1] rfl
      refine va_calli (va_runV (As := []) (rest := []) ⟨hx, hb, hml, hown, hts⟩ (c_X0_length l dC dI H.size a1 ya (nI n)) (cwV 0 hts gg_RX6_58 rfl rfl rfl (by decide +kernel) ⟨Nat.le_of_ble_eq_true rfl, Nat.le_of_ble_eq_true rfl⟩) ⟨fun a U g mk q => by obtain ⟨q0, q1, qP, qK, qD⟩ := q; exact ⟨q0, q1, qP, va_K.moved (u := U) (U := U.calling g mk a) (Vm.Alike.refl U.vm) qK, qD⟩, va_recv hK hP (ci := 0) (q0 := 1) rfl rfl, fun U hU hW => ⟨rfl, by rw [hU], by rw [hU]; exact hPc, va_K.moved hW.alike hKc, hDc.weaken (fun _ _ _ _ => trivial)⟩⟩ rfl rfl hl.1 rfl (lv_room (Nat.le_of_ble_eq_true rfl)) dX6_feed_72 ⟨Nat.le_of_ble_eq_true rfl, Nat.le_of_ble_eq_true rfl⟩) hS (fun q _ h => hFc q h) hFc (fun r2 u t H1 locs ht hvm hw hB hz1 hk1 hS => ?_)
      obtain ⟨hP1, hK1, hD1⟩ := hB
      rw [ht] at hP1
      have hK1 := va_K.moved hvm.symm hK1
      obtain ⟨hP, hD⟩ := va_join (wr := [(a0, .inr (6, [.ref a1, .ref a2, .ref a3, .ref a4, .ref a5, .int (-1), .int 0])), (ya, .inl (cA, 1200, .inl f0))]) (w1 := [(a1, .inr (0, [.ref ya, .int (nI n)]))]) hP hD [1] [0, 2] rfl rfl (by decide) (by decide) hk1 hFc hP1 hD1
      have hK := (hK.sub (tys' := [(cA, .byte)]) [0] rfl).app hK1
      generalize H1 = H at hP hS ⊢
      have hP : va_P (dC, dI) vwCl [(a0, .inr (6, [.ref a1, .ref a2, .ref a3, .ref a4, .ref a5, .int (-1), .int 0])), (ya, .inl (cA, 1200, .inl f0)), (a1, .inr (0, [.ref ya, .int (nI n)]))] H := hP
      have hD : va_D A [(a0, .inr (6, [.ref a1, .ref a2, .ref a3, .ref a4, .ref a5, .int (-1), .int 0])), (ya, .inl (cA, 1200, .inl f0)), (a1, .inr (0, [.ref ya, .int (nI n)]))] := hD
      have hK : va_K (dC, dI) vwCl [(cA, .byte)] s := hK
      have hw : r2 = (nI n) := hw
      subst hw
      have hP9 := hP.sub (ws' := []) [] rfl
      have hD9 := hD.sub (ws' := []) [] (by decide) rfl
      have hK9 := hK.sub (tys' := []) [] rfl
      exact W.iret (v := (nI n)) hx hb hr (fun t ht hW => ⟨⟨(nI n), (), rfl, by unfold pf_feed; rw [if_neg c_2, if_pos c_8, ek], by rw [ht]; exact hP9, va_K.moved hW.alike hK9, hD9⟩, hS.F ht⟩) hS.2.2 dX6_feed_75
    · skip
      refine lv_bipush (v := (-3)) hx hb dX6_feed_11 (by decide) ?_
      have hP9 := hP.sub (ws' := []) [] rfl
      have hD9 := hD.sub (ws' := []) [] (by decide) rfl
      have hK9 := hK.sub (tys' := []) [] rfl
      exact W.iret (v := (-3)) hx hb hr (fun t ht hW => ⟨⟨(-3), (), rfl, by unfold pf_feed; rw [if_neg c_2, if_neg c_8], by rw [ht]; exact hP9, va_K.moved hW.alike hK9, hD9⟩, hS.F ht⟩) hS.2.2 dX6_feed_13
end
section
set_option maxHeartbeats 4000000 in
set_option maxRecDepth 100000 in
/-- the reference() -/
theorem c_X7_init (l : Launch) (dC : Nat → ClassId) (dI : Nat → Nat → Nat) (sz : Nat) (a0 : Nat) : Met l yX7_init pwX7_init ({ frames := 1, cells := 16, slots := 7592, locals := 20 } : Room) (va_Pc [.ref a0] (fun U => U.heap.size = sz ∧ va_P (dC, dI) vwCl [(a0, .inr (7, [.int 0, .null, .int 0, .int 0, .int 0, .int 0, .int 0, .null, .int 0, .int 0, .null, .null, .null, .null, .null, .null, .null, .int 0, .null, .null, .null, .int 0, .null, .null, .null, .int 0, .null, .int 0, .int 0]))] U.heap ∧ va_K (dC, dI) vwCl [] U ∧ va_D (fun _ => True) [(a0, .inr (7, [.int 0, .null, .int 0, .int 0, .int 0, .int 0, .int 0, .null, .int 0, .int 0, .null, .null, .null, .null, .null, .null, .null, .int 0, .null, .null, .null, .int 0, .null, .null, .null, .int 0, .null, .int 0, .int 0]))])) (va_Qv (fun _ : Unit => True) (fun (_ : Unit) (t : State) => ∃ (m1 : Nat) (m2 : Nat) (m3 : Nat) (m4 : Nat) (m5 : Nat) (m6 : Nat) (m7 : Nat) (m8 : Nat) (m9 : Nat) (m10 : Nat) (m11 : Nat) (m12 : Nat) (m13 : Nat) (m14 : Nat) (m15 : Nat) (m16 : Nat) (cI : ClassId) (f0 : Nat → Int32), va_P (dC, dI) vwCl [(a0, .inr (7, [.int 0, .ref m1, .int 0, .int (-1), .int 0, .int 0, .int 0, .ref m2, .int 0, .int 0, .ref m3, .ref m4, .ref m5, .ref m6, .ref m7, .ref m8, .ref m9, .int 0, .ref m10, .ref m11, .ref m12, .int 0, .ref m13, .ref m14, .ref m15, .int 0, .ref m16, .int 0, .int 0])), (m1, .inl (cI, 1200, .inl f0))] t.heap ∧ va_K (dC, dI) vwCl [(cI, .int)] t ∧ va_D (va_A [(a0, .inr (7, [.int 0, .null, .int 0, .int 0, .int 0, .int 0, .int 0, .null, .int 0, .int 0, .null, .null, .null, .null, .null, .null, .null, .int 0, .null, .null, .null, .int 0, .null, .null, .null, .int 0, .null, .int 0, .int 0]))] sz) [(a0, .inr (7, [.int 0, .ref m1, .int 0, .int (-1), .int 0, .int 0, .int 0, .ref m2, .int 0, .int 0, .ref m3, .ref m4, .ref m5, .ref m6, .ref m7, .ref m8, .ref m9, .int 0, .ref m10, .ref m11, .ref m12, .int 0, .ref m13, .ref m14, .ref m15, .int 0, .ref m16, .int 0, .int 0])), (m1, .inl (cI, 1200, .inl f0))]) (va_A [(a0, .inr (7, [.int 0, .null, .int 0, .int 0, .int 0, .int 0, .int 0, .null, .int 0, .int 0, .null, .null, .null, .null, .null, .null, .null, .int 0, .null, .null, .null, .int 0, .null, .null, .null, .int 0, .null, .int 0, .int 0]))] sz)) 16 7592 (va_A [(a0, .inr (7, [.int 0, .null, .int 0, .int 0, .int 0, .int 0, .int 0, .null, .int 0, .int 0, .null, .null, .null, .null, .null, .null, .null, .int 0, .null, .null, .null, .int 0, .null, .null, .null, .int 0, .null, .int 0, .int 0]))] sz) := by
  refine Met.ofW (cc := cX7_init) (maxL := 1) (ret := none) (by decide) rfl ?_
  intro p e s m args below meth c s₁ B hml hv
  obtain ⟨rfl, hsz, hP, hK, hD0⟩ := hv
  have hx := B.exec
  have hb := B.bytes
  have hr := B.returns
  have hts0 := atoms_spec (ws := pwX7_init) B.pre
  have hts := fun w (h : w ∈ pwAll) => hts0 w (List.mem_cons_of_mem _ h)
  have hown : s.vm.findClass RX7 = some m.cls := findClass_of_methodNamed B.named
  have hlocks := B.notSynchronized
  have hin : meth.name = "<init>" := (name_of_methodNamed B.named B.method).1
  subst hsz
  have hD := hD0.self (sz := s.heap.size)
  generalize hAe : va_A [(a0, .inr (7, [.int 0, .null, .int 0, .int 0, .int 0, .int 0, .int 0, .null, .int 0, .int 0, .null, .null, .null, .null, .null, .null, .null, .int 0, .null, .null, .null, .int 0, .null, .null, .null, .int 0, .null, .int 0, .int 0]))] s.heap.size = A at hD ⊢
  have hA : ∀ q : Nat, s.heap.size ≤ q → A q := fun q h => by rw [← hAe]; exact Or.inr h
  have hS : va_S A s.heap s.heap [] := va_S.rf
  have hP : va_P (dC, dI) vwCl [(a0, .inr (7, [.int 0, .null, .int 0, .int 0, .int 0, .int 0, .int 0, .null, .int 0, .int 0, .null, .null, .null, .null, .null, .null, .null, .int 0, .null, .null, .null, .int 0, .null, .null, .null, .int 0, .null, .int 0, .int 0]))] s.heap := hP
  have hl := lv_entry ([.ref a0]) (n := 1) (Nat.le_of_ble_eq_true rfl)
  rw [lg_entry_eq]
  generalize (lg_sl ([.ref a0]) ++ List.replicate (1 - (lg_sl ([.ref a0])).length) Slot.unset).toArray = ls at hl ⊢
  have hl : lv_has ls 1 [(0, .ref a0)] := hl
  refine lv_aload_n hx hb dX7_init_0 rfl (lv_at hl 0 rfl) ?_
  refine W.objInit hx hb hown (hts (.methodLink RX7 1 objectInit) k_151) (hts (.instanceMethod objectInit) k_1) (hts (.code objectInit ⟨#[0xb1]⟩ 1 none) k_2) rfl (by rw [hml]; exact hl.1) rfl dX7_init_1 (Nat.le_of_ble_eq_true rfl) (Nat.le_of_ble_eq_true rfl) ?_
  refine W.eq (g2 := F0 m 4 ls []) rfl ?_
  refine lv_aload_n hx hb dX7_init_4 rfl (lv_at hl 0 rfl) ?_
  refine lv_sipush (v := 1200) hx hb dX7_init_5 (by decide) ?_
  refine va_newa (atype := .int) (ty := .int) (a0 := (1200, .inl (fun _ => 0))) (n := 1200) (N' := 1200) hx hb (hts (.arrayClass .int) k_14) rfl hK hP hD hS hA (fun _ => rfl) (by decide) (rfl) (Nat.le_of_ble_eq_true rfl) (Nat.le_of_ble_eq_true rfl) (Nat.le_of_ble_eq_true rfl) dX7_init_8 (fun q1 cA2 H hK hP hD hS => ?_)
  have hP : va_P (dC, dI) vwCl [(a0, .inr (7, [.int 0, .null, .int 0, .int 0, .int 0, .int 0, .int 0, .null, .int 0, .int 0, .null, .null, .null, .null, .null, .null, .null, .int 0, .null, .null, .null, .int 0, .null, .null, .null, .int 0, .null, .int 0, .int 0])), (q1, .inl (cA2, 1200, .inl (fun _ => 0)))] H := hP
  have hD : va_D A [(a0, .inr (7, [.int 0, .null, .int 0, .int 0, .int 0, .int 0, .int 0, .null, .int 0, .int 0, .null, .null, .null, .null, .null, .null, .null, .int 0, .null, .null, .null, .int 0, .null, .null, .null, .int 0, .null, .int 0, .int 0])), (q1, .inl (cA2, 1200, .inl (fun _ => 0)))] := hD
  have hK : va_K (dC, dI) vwCl [(cA2, .int)] s := hK
  refine W.widen (k := 1) (n := 1200) (Nat.le_of_ble_eq_true rfl) (Nat.le_of_ble_eq_true rfl) ?_
  refine va_putF (D := (dC, dI)) (ci := 7) (v := .ref q1) (ty := .array .int) (C := RX7) (T := TX7) (N := 29) hx hb hts inAll_7 tyX7 tyX7_ok nmX7 hown hK hP hD hS 0 rfl rfl 1 (by decide) (hts (.fieldLink RX7 7 "LoopEnvelopesModel" "text" "[I") k_152) (fun _ h9 => h9) rfl hin rfl (by decide +kernel) rfl rfl (Nat.le_of_ble_eq_true rfl) dX7_init_10 (fun H locs hP hD hS => ?_)
  have hP : va_P (dC, dI) vwCl [(a0, .inr (7, [.int 0, .ref q1, .int 0, .int 0, .int 0, .int 0, .int 0, .null, .int 0, .int 0, .null, .null, .null, .null, .null, .null, .null, .int 0, .null, .null, .null, .int 0, .null, .null, .null, .int 0, .null, .int 0, .int 0])), (q1, .inl (cA2, 1200, .inl (fun _ => 0)))] H := hP
  have hD : va_D A [(a0, .inr (7, [.int 0, .ref q1, .int 0, .int 0, .int 0, .int 0, .int 0, .null, .int 0, .int 0, .null, .null, .null, .null, .null, .null, .null, .int 0, .null, .null, .null, .int 0, .null, .null, .null, .int 0, .null, .int 0, .int 0])), (q1, .inl (cA2, 1200, .inl (fun _ => 0)))] := hD
  refine lv_aload_n hx hb dX7_init_13 rfl (lv_at hl 0 rfl) ?_
  refine lv_iconst (v := (-1)) hx hb dX7_init_14 (by decide) ?_
  refine va_put (D := (dC, dI)) (ci := 7) (v := .int (-1)) (ty := .int) (C := RX7) (T := TX7) (N := 29) hx hb hts inAll_7 tyX7 tyX7_ok nmX7 hown hK hP hD hS 0 rfl rfl 3 (by decide) (hts (.fieldLink RX7 13 "LoopEnvelopesModel" "where" "I") k_153) (fun _ h9 => h9) rfl (by decide +kernel) rfl rfl (Nat.le_of_ble_eq_true rfl) dX7_init_15 (fun H locs hP hD hS => ?_)
  have hP : va_P (dC, dI) vwCl [(a0, .inr (7, [.int 0, .ref q1, .int 0, .int (-1), .int 0, .int 0, .int 0, .null, .int 0, .int 0, .null, .null, .null, .null, .null, .null, .null, .int 0, .null, .null, .null, .int 0, .null, .null, .null, .int 0, .null, .int 0, .int 0])), (q1, .inl (cA2, 1200, .inl (fun _ => 0)))] H := hP
  have hD : va_D A [(a0, .inr (7, [.int 0, .ref q1, .int 0, .int (-1), .int 0, .int 0, .int 0, .null, .int 0, .int 0, .null, .null, .null, .null, .null, .null, .null, .int 0, .null, .null, .null, .int 0, .null, .null, .null, .int 0, .null, .int 0, .int 0])), (q1, .inl (cA2, 1200, .inl (fun _ => 0)))] := hD
  refine lv_aload_n hx hb dX7_init_18 rfl (lv_at hl 0 rfl) ?_
  refine lv_sipush (v := 1200) hx hb dX7_init_19 (by decide) ?_
  refine va_newa (atype := .int) (ty := .int) (a0 := (1200, .inl (fun _ => 0))) (n := 1200) (N' := 1200) hx hb (hts (.arrayClass .int) k_14) rfl hK hP hD hS hA (fun _ => rfl) (by decide) (rfl) (Nat.le_of_ble_eq_true rfl) (Nat.le_of_ble_eq_true rfl) (Nat.le_of_ble_eq_true rfl) dX7_init_22 (fun q3 cA4 H hK hP hD hS => ?_)
  have hP : va_P (dC, dI) vwCl [(a0, .inr (7, [.int 0, .ref q1, .int 0, .int (-1), .int 0, .int 0, .int 0, .null, .int 0, .int 0, .null, .null, .null, .null, .null, .null, .null, .int 0, .null, .null, .null, .int 0, .null, .null, .null, .int 0, .null, .int 0, .int 0])), (q1, .inl (cA2, 1200, .inl (fun _ => 0))), (q3, .inl (cA4, 1200, .inl (fun _ => 0)))] H := hP
  have hD : va_D A [(a0, .inr (7, [.int 0, .ref q1, .int 0, .int (-1), .int 0, .int 0, .int 0, .null, .int 0, .int 0, .null, .null, .null, .null, .null, .null, .null, .int 0, .null, .null, .null, .int 0, .null, .null, .null, .int 0, .null, .int 0, .int 0])), (q1, .inl (cA2, 1200, .inl (fun _ => 0))), (q3, .inl (cA4, 1200, .inl (fun _ => 0)))] := hD
  have hK : va_K (dC, dI) vwCl [(cA2, .int), (cA4, .int)] s := hK
  refine W.widen (k := 2) (n := 2400) (Nat.le_of_ble_eq_true rfl) (Nat.le_of_ble_eq_true rfl) ?_
  refine va_putF (D := (dC, dI)) (ci := 7) (v := .ref q3) (ty := .array .int) (C := RX7) (T := TX7) (N := 29) hx hb hts inAll_7 tyX7 tyX7_ok nmX7 hown hK hP hD hS 0 rfl rfl 7 (by decide) (hts (.fieldLink RX7 17 "LoopEnvelopesModel" "was" "[I") k_154) (fun _ h9 => h9) rfl hin rfl (by decide +kernel) rfl rfl (Nat.le_of_ble_eq_true rfl) dX7_init_24 (fun H locs hP hD hS => ?_)
  have hP : va_P (dC, dI) vwCl [(a0, .inr (7, [.int 0, .ref q1, .int 0, .int (-1), .int 0, .int 0, .int 0, .ref q3, .int 0, .int 0, .null, .null, .null, .null, .null, .null, .null, .int 0, .null, .null, .null, .int 0, .null, .null, .null, .int 0, .null, .int 0, .int 0])), (q1, .inl (cA2, 1200, .inl (fun _ => 0))), (q3, .inl (cA4, 1200, .inl (fun _ => 0)))] H := hP
  have hD : va_D A [(a0, .inr (7, [.int 0, .ref q1, .int 0, .int (-1), .int 0, .int 0, .int 0, .ref q3, .int 0, .int 0, .null, .null, .null, .null, .null, .null, .null, .int 0, .null, .null, .null, .int 0, .null, .null, .null, .int 0, .null, .int 0, .int 0])), (q1, .inl (cA2, 1200, .inl (fun _ => 0))), (q3, .inl (cA4, 1200, .inl (fun _ => 0)))] := hD
  refine lv_aload_n hx hb dX7_init_27 rfl (lv_at hl 0 rfl) ?_
  refine lv_bipush (v := 120) hx hb dX7_init_28 (by decide) ?_
  refine va_newa (atype := .int) (ty := .int) (a0 := (120, .inl (fun _ => 0))) (n := 120) (N' := 120) hx hb (hts (.arrayClass .int) k_14) rfl hK hP hD hS hA (fun _ => rfl) (by decide) (rfl) (Nat.le_of_ble_eq_true rfl) (Nat.le_of_ble_eq_true rfl) (Nat.le_of_ble_eq_true rfl) dX7_init_30 (fun q5 cA6 H hK hP hD hS => ?_)
  have hP : va_P (dC, dI) vwCl [(a0, .inr (7, [.int 0, .ref q1, .int 0, .int (-1), .int 0, .int 0, .int 0, .ref q3, .int 0, .int 0, .null, .null, .null, .null, .null, .null, .null, .int 0, .null, .null, .null, .int 0, .null, .null, .null, .int 0, .null, .int 0, .int 0])), (q1, .inl (cA2, 1200, .inl (fun _ => 0))), (q3, .inl (cA4, 1200, .inl (fun _ => 0))), (q5, .inl (cA6, 120, .inl (fun _ => 0)))] H := hP
  have hD : va_D A [(a0, .inr (7, [.int 0, .ref q1, .int 0, .int (-1), .int 0, .int 0, .int 0, .ref q3, .int 0, .int 0, .null, .null, .null, .null, .null, .null, .null, .int 0, .null, .null, .null, .int 0, .null, .null, .null, .int 0, .null, .int 0, .int 0])), (q1, .inl (cA2, 1200, .inl (fun _ => 0))), (q3, .inl (cA4, 1200, .inl (fun _ => 0))), (q5, .inl (cA6, 120, .inl (fun _ => 0)))] := hD
  have hK : va_K (dC, dI) vwCl [(cA2, .int), (cA4, .int), (cA6, .int)] s := hK
  refine W.widen (k := 3) (n := 2520) (Nat.le_of_ble_eq_true rfl) (Nat.le_of_ble_eq_true rfl) ?_
  refine va_putF (D := (dC, dI)) (ci := 7) (v := .ref q5) (ty := .array .int) (C := RX7) (T := TX7) (N := 29) hx hb hts inAll_7 tyX7 tyX7_ok nmX7 hown hK hP hD hS 0 rfl rfl 10 (by decide) (hts (.fieldLink RX7 20 "LoopEnvelopesModel" "nameOf" "[I") k_155) (fun _ h9 => h9) rfl hin rfl (by decide +kernel) rfl rfl (Nat.le_of_ble_eq_true rfl) dX7_init_32 (fun H locs hP hD hS => ?_)
  have hP : va_P (dC, dI) vwCl [(a0, .inr (7, [.int 0, .ref q1, .int 0, .int (-1), .int 0, .int 0, .int 0, .ref q3, .int 0, .int 0, .ref q5, .null, .null, .null, .null, .null, .null, .int 0, .null, .null, .null, .int 0, .null, .null, .null, .int 0, .null, .int 0, .int 0])), (q1, .inl (cA2, 1200, .inl (fun _ => 0))), (q3, .inl (cA4, 1200, .inl (fun _ => 0))), (q5, .inl (cA6, 120, .inl (fun _ => 0)))] H := hP
  have hD : va_D A [(a0, .inr (7, [.int 0, .ref q1, .int 0, .int (-1), .int 0, .int 0, .int 0, .ref q3, .int 0, .int 0, .ref q5, .null, .null, .null, .null, .null, .null, .int 0, .null, .null, .null, .int 0, .null, .null, .null, .int 0, .null, .int 0, .int 0])), (q1, .inl (cA2, 1200, .inl (fun _ => 0))), (q3, .inl (cA4, 1200, .inl (fun _ => 0))), (q5, .inl (cA6, 120, .inl (fun _ => 0)))] := hD
  refine lv_aload_n hx hb dX7_init_35 rfl (lv_at hl 0 rfl) ?_
  refine lv_bipush (v := 120) hx hb dX7_init_36 (by decide) ?_
  refine va_newa (atype := .int) (ty := .int) (a0 := (120, .inl (fun _ => 0))) (n := 120) (N' := 120) hx hb (hts (.arrayClass .int) k_14) rfl hK hP hD hS hA (fun _ => rfl) (by decide) (rfl) (Nat.le_of_ble_eq_true rfl) (Nat.le_of_ble_eq_true rfl) (Nat.le_of_ble_eq_true rfl) dX7_init_38 (fun q7 cA8 H hK hP hD hS => ?_)
  have hP : va_P (dC, dI) vwCl [(a0, .inr (7, [.int 0, .ref q1, .int 0, .int (-1), .int 0, .int 0, .int 0, .ref q3, .int 0, .int 0, .ref q5, .null, .null, .null, .null, .null, .null, .int 0, .null, .null, .null, .int 0, .null, .null, .null, .int 0, .null, .int 0, .int 0])), (q1, .inl (cA2, 1200, .inl (fun _ => 0))), (q3, .inl (cA4, 1200, .inl (fun _ => 0))), (q5, .inl (cA6, 120, .inl (fun _ => 0))), (q7, .inl (cA8, 120, .inl (fun _ => 0)))] H := hP
  have hD : va_D A [(a0, .inr (7, [.int 0, .ref q1, .int 0, .int (-1), .int 0, .int 0, .int 0, .ref q3, .int 0, .int 0, .ref q5, .null, .null, .null, .null, .null, .null, .int 0, .null, .null, .null, .int 0, .null, .null, .null, .int 0, .null, .int 0, .int 0])), (q1, .inl (cA2, 1200, .inl (fun _ => 0))), (q3, .inl (cA4, 1200, .inl (fun _ => 0))), (q5, .inl (cA6, 120, .inl (fun _ => 0))), (q7, .inl (cA8, 120, .inl (fun _ => 0)))] := hD
  have hK : va_K (dC, dI) vwCl [(cA2, .int), (cA4, .int), (cA6, .int), (cA8, .int)] s := hK
  refine W.widen (k := 4) (n := 2640) (Nat.le_of_ble_eq_true rfl) (Nat.le_of_ble_eq_true rfl) ?_
  refine va_putF (D := (dC, dI)) (ci := 7) (v := .ref q7) (ty := .array .int) (C := RX7) (T := TX7) (N := 29) hx hb hts inAll_7 tyX7 tyX7_ok nmX7 hown hK hP hD hS 0 rfl rfl 11 (by decide) (hts (.fieldLink RX7 23 "LoopEnvelopesModel" "elements" "[I") k_156) (fun _ h9 => h9) rfl hin rfl (by decide +kernel) rfl rfl (Nat.le_of_ble_eq_true rfl) dX7_init_40 (fun H locs hP hD hS => ?_)
  have hP : va_P (dC, dI) vwCl [(a0, .inr (7, [.int 0, .ref q1, .int 0, .int (-1), .int 0, .int 0, .int 0, .ref q3, .int 0, .int 0, .ref q5, .ref q7, .null, .null, .null, .null, .null, .int 0, .null, .null, .null, .int 0, .null, .null, .null, .int 0, .null, .int 0, .int 0])), (q1, .inl (cA2, 1200, .inl (fun _ => 0))), (q3, .inl (cA4, 1200, .inl (fun _ => 0))), (q5, .inl (cA6, 120, .inl (fun _ => 0))), (q7, .inl (cA8, 120, .inl (fun _ => 0)))] H := hP
  have hD : va_D A [(a0, .inr (7, [.int 0, .ref q1, .int 0, .int (-1), .int 0, .int 0, .int 0, .ref q3, .int 0, .int 0, .ref q5, .ref q7, .null, .null, .null, .null, .null, .int 0, .null, .null, .null, .int 0, .null, .null, .null, .int 0, .null, .int 0, .int 0])), (q1, .inl (cA2, 1200, .inl (fun _ => 0))), (q3, .inl (cA4, 1200, .inl (fun _ => 0))), (q5, .inl (cA6, 120, .inl (fun _ => 0))), (q7, .inl (cA8, 120, .inl (fun _ => 0)))] := hD
  refine lv_aload_n hx hb dX7_init_43 rfl (lv_at hl 0 rfl) ?_
  refine lv_sipush (v := 1080) hx hb dX7_init_44 (by decide) ?_
  refine va_newa (atype := .int) (ty := .int) (a0 := (1080, .inl (fun _ => 0))) (n := 1080) (N' := 1080) hx hb (hts (.arrayClass .int) k_14) rfl hK hP hD hS hA (fun _ => rfl) (by decide) (rfl) (Nat.le_of_ble_eq_true rfl) (Nat.le_of_ble_eq_true rfl) (Nat.le_of_ble_eq_true rfl) dX7_init_47 (fun q9 cA10 H hK hP hD hS => ?_)
  have hP : va_P (dC, dI) vwCl [(a0, .inr (7, [.int 0, .ref q1, .int 0, .int (-1), .int 0, .int 0, .int 0, .ref q3, .int 0, .int 0, .ref q5, .ref q7, .null, .null, .null, .null, .null, .int 0, .null, .null, .null, .int 0, .null, .null, .null, .int 0, .null, .int 0, .int 0])), (q1, .inl (cA2, 1200, .inl (fun _ => 0))), (q3, .inl (cA4, 1200, .inl (fun _ => 0))), (q5, .inl (cA6, 120, .inl (fun _ => 0))), (q7, .inl (cA8, 120, .inl (fun _ => 0))), (q9, .inl (cA10, 1080, .inl (fun _ => 0)))] H := hP
  have hD : va_D A [(a0, .inr (7, [.int 0, .ref q1, .int 0, .int (-1), .int 0, .int 0, .int 0, .ref q3, .int 0, .int 0, .ref q5, .ref q7, .null, .null, .null, .null, .null, .int 0, .null, .null, .null, .int 0, .null, .null, .null, .int 0, .null, .int 0, .int 0])), (q1, .inl (cA2, 1200, .inl (fun _ => 0))), (q3, .inl (cA4, 1200, .inl (fun _ => 0))), (q5, .inl (cA6, 120, .inl (fun _ => 0))), (q7, .inl (cA8, 120, .inl (fun _ => 0))), (q9, .inl (cA10, 1080, .inl (fun _ => 0)))] := hD
  have hK : va_K (dC, dI) vwCl [(cA2, .int), (cA4, .int), (cA6, .int), (cA8, .int), (cA10, .int)] s := hK
  refine W.widen (k := 5) (n := 3720) (Nat.le_of_ble_eq_true rfl) (Nat.le_of_ble_eq_true rfl) ?_
  refine va_putF (D := (dC, dI)) (ci := 7) (v := .ref q9) (ty := .array .int) (C := RX7) (T := TX7) (N := 29) hx hb hts inAll_7 tyX7 tyX7_ok nmX7 hown hK hP hD hS 0 rfl rfl 12 (by decide) (hts (.fieldLink RX7 26 "LoopEnvelopesModel" "from" "[I") k_157) (fun _ h9 => h9) rfl hin rfl (by decide +kernel) rfl rfl (Nat.le_of_ble_eq_true rfl) dX7_init_49 (fun H locs hP hD hS => ?_)
  have hP : va_P (dC, dI) vwCl [(a0, .inr (7, [.int 0, .ref q1, .int 0, .int (-1), .int 0, .int 0, .int 0, .ref q3, .int 0, .int 0, .ref q5, .ref q7, .ref q9, .null, .null, .null, .null, .int 0, .null, .null, .null, .int 0, .null, .null, .null, .int 0, .null, .int 0, .int 0])), (q1, .inl (cA2, 1200, .inl (fun _ => 0))), (q3, .inl (cA4, 1200, .inl (fun _ => 0))), (q5, .inl (cA6, 120, .inl (fun _ => 0))), (q7, .inl (cA8, 120, .inl (fun _ => 0))), (q9, .inl (cA10, 1080, .inl (fun _ => 0)))] H := hP
  have hD : va_D A [(a0, .inr (7, [.int 0, .ref q1, .int 0, .int (-1), .int 0, .int 0, .int 0, .ref q3, .int 0, .int 0, .ref q5, .ref q7, .ref q9, .null, .null, .null, .null, .int 0, .null, .null, .null, .int 0, .null, .null, .null, .int 0, .null, .int 0, .int 0])), (q1, .inl (cA2, 1200, .inl (fun _ => 0))), (q3, .inl (cA4, 1200, .inl (fun _ => 0))), (q5, .inl (cA6, 120, .inl (fun _ => 0))), (q7, .inl (cA8, 120, .inl (fun _ => 0))), (q9, .inl (cA10, 1080, .inl (fun _ => 0)))] := hD
  refine lv_aload_n hx hb dX7_init_52 rfl (lv_at hl 0 rfl) ?_
  refine lv_sipush (v := 1080) hx hb dX7_init_53 (by decide) ?_
  refine va_newa (atype := .int) (ty := .int) (a0 := (1080, .inl (fun _ => 0))) (n := 1080) (N' := 1080) hx hb (hts (.arrayClass .int) k_14) rfl hK hP hD hS hA (fun _ => rfl) (by decide) (rfl) (Nat.le_of_ble_eq_true rfl) (Nat.le_of_ble_eq_true rfl) (Nat.le_of_ble_eq_true rfl) dX7_init_56 (fun q11 cA12 H hK hP hD hS => ?_)
  have hP : va_P (dC, dI) vwCl [(a0, .inr (7, [.int 0, .ref q1, .int 0, .int (-1), .int 0, .int 0, .int 0, .ref q3, .int 0, .int 0, .ref q5, .ref q7, .ref q9, .null, .null, .null, .null, .int 0, .null, .null, .null, .int 0, .null, .null, .null, .int 0, .null, .int 0, .int 0])), (q1, .inl (cA2, 1200, .inl (fun _ => 0))), (q3, .inl (cA4, 1200, .inl (fun _ => 0))), (q5, .inl (cA6, 120, .inl (fun _ => 0))), (q7, .inl (cA8, 120, .inl (fun _ => 0))), (q9, .inl (cA10, 1080, .inl (fun _ => 0))), (q11, .inl (cA12, 1080, .inl (fun _ => 0)))] H := hP
  have hD : va_D A [(a0, .inr (7, [.int 0, .ref q1, .int 0, .int (-1), .int 0, .int 0, .int 0, .ref q3, .int 0, .int 0, .ref q5, .ref q7, .ref q9, .null, .null, .null, .null, .int 0, .null, .null, .null, .int 0, .null, .null, .null, .int 0, .null, .int 0, .int 0])), (q1, .inl (cA2, 1200, .inl (fun _ => 0))), (q3, .inl (cA4, 1200, .inl (fun _ => 0))), (q5, .inl (cA6, 120, .inl (fun _ => 0))), (q7, .inl (cA8, 120, .inl (fun _ => 0))), (q9, .inl (cA10, 1080, .inl (fun _ => 0))), (q11, .inl (cA12, 1080, .inl (fun _ => 0)))] := hD
  have hK : va_K (dC, dI) vwCl [(cA2, .int), (cA4, .int), (cA6, .int), (cA8, .int), (cA10, .int), (cA12, .int)] s := hK
  refine W.widen (k := 6) (n := 4800) (Nat.le_of_ble_eq_true rfl) (Nat.le_of_ble_eq_true rfl) ?_
  refine va_putF (D := (dC, dI)) (ci := 7) (v := .ref q11) (ty := .array .int) (C := RX7) (T := TX7) (N := 29) hx hb hts inAll_7 tyX7 tyX7_ok nmX7 hown hK hP hD hS 0 rfl rfl 13 (by decide) (hts (.fieldLink RX7 29 "LoopEnvelopesModel" "long0" "[I") k_158) (fun _ h9 => h9) rfl hin rfl (by decide +kernel) rfl rfl (Nat.le_of_ble_eq_true rfl) dX7_init_58 (fun H locs hP hD hS => ?_)
  have hP : va_P (dC, dI) vwCl [(a0, .inr (7, [.int 0, .ref q1, .int 0, .int (-1), .int 0, .int 0, .int 0, .ref q3, .int 0, .int 0, .ref q5, .ref q7, .ref q9, .ref q11, .null, .null, .null, .int 0, .null, .null, .null, .int 0, .null, .null, .null, .int 0, .null, .int 0, .int 0])), (q1, .inl (cA2, 1200, .inl (fun _ => 0))), (q3, .inl (cA4, 1200, .inl (fun _ => 0))), (q5, .inl (cA6, 120, .inl (fun _ => 0))), (q7, .inl (cA8, 120, .inl (fun _ => 0))), (q9, .inl (cA10, 1080, .inl (fun _ => 0))), (q11, .inl (cA12, 1080, .inl (fun _ => 0)))] H := hP
  have hD : va_D A [(a0, .inr (7, [.int 0, .ref q1, .int 0, .int (-1), .int 0, .int 0, .int 0, .ref q3, .int 0, .int 0, .ref q5, .ref q7, .ref q9, .ref q11, .null, .null, .null, .int 0, .null, .null, .null, .int 0, .null, .null, .null, .int 0, .null, .int 0, .int 0])), (q1, .inl (cA2, 1200, .inl (fun _ => 0))), (q3, .inl (cA4, 1200, .inl (fun _ => 0))), (q5, .inl (cA6, 120, .inl (fun _ => 0))), (q7, .inl (cA8, 120, .inl (fun _ => 0))), (q9, .inl (cA10, 1080, .inl (fun _ => 0))), (q11, .inl (cA12, 1080, .inl (fun _ => 0)))] := hD
  refine lv_aload_n hx hb dX7_init_61 rfl (lv_at hl 0 rfl) ?_
  refine lv_bipush (v := 120) hx hb dX7_init_62 (by decide) ?_
  refine va_newa (atype := .boolean) (ty := .boolean) (a0 := (120, .inl (fun _ => 0))) (n := 120) (N' := 120) hx hb (hts (.arrayClass .boolean) k_159) rfl hK hP hD hS hA (fun _ => rfl) (by decide) (rfl) (Nat.le_of_ble_eq_true rfl) (Nat.le_of_ble_eq_true rfl) (Nat.le_of_ble_eq_true rfl) dX7_init_64 (fun q13 cA14 H hK hP hD hS => ?_)
  have hP : va_P (dC, dI) vwCl [(a0, .inr (7, [.int 0, .ref q1, .int 0, .int (-1), .int 0, .int 0, .int 0, .ref q3, .int 0, .int 0, .ref q5, .ref q7, .ref q9, .ref q11, .null, .null, .null, .int 0, .null, .null, .null, .int 0, .null, .null, .null, .int 0, .null, .int 0, .int 0])), (q1, .inl (cA2, 1200, .inl (fun _ => 0))), (q3, .inl (cA4, 1200, .inl (fun _ => 0))), (q5, .inl (cA6, 120, .inl (fun _ => 0))), (q7, .inl (cA8, 120, .inl (fun _ => 0))), (q9, .inl (cA10, 1080, .inl (fun _ => 0))), (q11, .inl (cA12, 1080, .inl (fun _ => 0))), (q13, .inl (cA14, 120, .inl (fun _ => 0)))] H := hP
  have hD : va_D A [(a0, .inr (7, [.int 0, .ref q1, .int 0, .int (-1), .int 0, .int 0, .int 0, .ref q3, .int 0, .int 0, .ref q5, .ref q7, .ref q9, .ref q11, .null, .null, .null, .int 0, .null, .null, .null, .int 0, .null, .null, .null, .int 0, .null, .int 0, .int 0])), (q1, .inl (cA2, 1200, .inl (fun _ => 0))), (q3, .inl (cA4, 1200, .inl (fun _ => 0))), (q5, .inl (cA6, 120, .inl (fun _ => 0))), (q7, .inl (cA8, 120, .inl (fun _ => 0))), (q9, .inl (cA10, 1080, .inl (fun _ => 0))), (q11, .inl (cA12, 1080, .inl (fun _ => 0))), (q13, .inl (cA14, 120, .inl (fun _ => 0)))] := hD
  have hK : va_K (dC, dI) vwCl [(cA2, .int), (cA4, .int), (cA6, .int), (cA8, .int), (cA10, .int), (cA12, .int), (cA14, .boolean)] s := hK
  refine W.widen (k := 7) (n := 4920) (Nat.le_of_ble_eq_true rfl) (Nat.le_of_ble_eq_true rfl) ?_
  refine va_putF (D := (dC, dI)) (ci := 7) (v := .ref q13) (ty := .array .boolean) (C := RX7) (T := TX7) (N := 29) hx hb hts inAll_7 tyX7 tyX7_ok nmX7 hown hK hP hD hS 0 rfl rfl 14 (by decide) (hts (.fieldLink RX7 32 "LoopEnvelopesModel" "isIll" "[Z") k_160) (fun _ h9 => h9) rfl hin rfl (by decide +kernel) rfl rfl (Nat.le_of_ble_eq_true rfl) dX7_init_66 (fun H locs hP hD hS => ?_)
  have hP : va_P (dC, dI) vwCl [(a0, .inr (7, [.int 0, .ref q1, .int 0, .int (-1), .int 0, .int 0, .int 0, .ref q3, .int 0, .int 0, .ref q5, .ref q7, .ref q9, .ref q11, .ref q13, .null, .null, .int 0, .null, .null, .null, .int 0, .null, .null, .null, .int 0, .null, .int 0, .int 0])), (q1, .inl (cA2, 1200, .inl (fun _ => 0))), (q3, .inl (cA4, 1200, .inl (fun _ => 0))), (q5, .inl (cA6, 120, .inl (fun _ => 0))), (q7, .inl (cA8, 120, .inl (fun _ => 0))), (q9, .inl (cA10, 1080, .inl (fun _ => 0))), (q11, .inl (cA12, 1080, .inl (fun _ => 0))), (q13, .inl (cA14, 120, .inl (fun _ => 0)))] H := hP
  have hD : va_D A [(a0, .inr (7, [.int 0, .ref q1, .int 0, .int (-1), .int 0, .int 0, .int 0, .ref q3, .int 0, .int 0, .ref q5, .ref q7, .ref q9, .ref q11, .ref q13, .null, .null, .int 0, .null, .null, .null, .int 0, .null, .null, .null, .int 0, .null, .int 0, .int 0])), (q1, .inl (cA2, 1200, .inl (fun _ => 0))), (q3, .inl (cA4, 1200, .inl (fun _ => 0))), (q5, .inl (cA6, 120, .inl (fun _ => 0))), (q7, .inl (cA8, 120, .inl (fun _ => 0))), (q9, .inl (cA10, 1080, .inl (fun _ => 0))), (q11, .inl (cA12, 1080, .inl (fun _ => 0))), (q13, .inl (cA14, 120, .inl (fun _ => 0)))] := hD
  refine lv_aload_n hx hb dX7_init_69 rfl (lv_at hl 0 rfl) ?_
  refine lv_bipush (v := 120) hx hb dX7_init_70 (by decide) ?_
  refine va_newa (atype := .int) (ty := .int) (a0 := (120, .inl (fun _ => 0))) (n := 120) (N' := 120) hx hb (hts (.arrayClass .int) k_14) rfl hK hP hD hS hA (fun _ => rfl) (by decide) (rfl) (Nat.le_of_ble_eq_true rfl) (Nat.le_of_ble_eq_true rfl) (Nat.le_of_ble_eq_true rfl) dX7_init_72 (fun q15 cA16 H hK hP hD hS => ?_)
  have hP : va_P (dC, dI) vwCl [(a0, .inr (7, [.int 0, .ref q1, .int 0, .int (-1), .int 0, .int 0, .int 0, .ref q3, .int 0, .int 0, .ref q5, .ref q7, .ref q9, .ref q11, .ref q13, .null, .null, .int 0, .null, .null, .null, .int 0, .null, .null, .null, .int 0, .null, .int 0, .int 0])), (q1, .inl (cA2, 1200, .inl (fun _ => 0))), (q3, .inl (cA4, 1200, .inl (fun _ => 0))), (q5, .inl (cA6, 120, .inl (fun _ => 0))), (q7, .inl (cA8, 120, .inl (fun _ => 0))), (q9, .inl (cA10, 1080, .inl (fun _ => 0))), (q11, .inl (cA12, 1080, .inl (fun _ => 0))), (q13, .inl (cA14, 120, .inl (fun _ => 0))), (q15, .inl (cA16, 120, .inl (fun _ => 0)))] H := hP
  have hD : va_D A [(a0, .inr (7, [.int 0, .ref q1, .int 0, .int (-1), .int 0, .int 0, .int 0, .ref q3, .int 0, .int 0, .ref q5, .ref q7, .ref q9, .ref q11, .ref q13, .null, .null, .int 0, .null, .null, .null, .int 0, .null, .null, .null, .int 0, .null, .int 0, .int 0])), (q1, .inl (cA2, 1200, .inl (fun _ => 0))), (q3, .inl (cA4, 1200, .inl (fun _ => 0))), (q5, .inl (cA6, 120, .inl (fun _ => 0))), (q7, .inl (cA8, 120, .inl (fun _ => 0))), (q9, .inl (cA10, 1080, .inl (fun _ => 0))), (q11, .inl (cA12, 1080, .inl (fun _ => 0))), (q13, .inl (cA14, 120, .inl (fun _ => 0))), (q15, .inl (cA16, 120, .inl (fun _ => 0)))] := hD
  have hK : va_K (dC, dI) vwCl [(cA2, .int), (cA4, .int), (cA6, .int), (cA8, .int), (cA10, .int), (cA12, .int), (cA14, .boolean), (cA16, .int)] s := hK
  refine W.widen (k := 8) (n := 5040) (Nat.le_of_ble_eq_true rfl) (Nat.le_of_ble_eq_true rfl) ?_
  refine va_putF (D := (dC, dI)) (ci := 7) (v := .ref q15) (ty := .array .int) (C := RX7) (T := TX7) (N := 29) hx hb hts inAll_7 tyX7 tyX7_ok nmX7 hown hK hP hD hS 0 rfl rfl 15 (by decide) (hts (.fieldLink RX7 36 "LoopEnvelopesModel" "fault" "[I") k_161) (fun _ h9 => h9) rfl hin rfl (by decide +kernel) rfl rfl (Nat.le_of_ble_eq_true rfl) dX7_init_74 (fun H locs hP hD hS => ?_)
  have hP : va_P (dC, dI) vwCl [(a0, .inr (7, [.int 0, .ref q1, .int 0, .int (-1), .int 0, .int 0, .int 0, .ref q3, .int 0, .int 0, .ref q5, .ref q7, .ref q9, .ref q11, .ref q13, .ref q15, .null, .int 0, .null, .null, .null, .int 0, .null, .null, .null, .int 0, .null, .int 0, .int 0])), (q1, .inl (cA2, 1200, .inl (fun _ => 0))), (q3, .inl (cA4, 1200, .inl (fun _ => 0))), (q5, .inl (cA6, 120, .inl (fun _ => 0))), (q7, .inl (cA8, 120, .inl (fun _ => 0))), (q9, .inl (cA10, 1080, .inl (fun _ => 0))), (q11, .inl (cA12, 1080, .inl (fun _ => 0))), (q13, .inl (cA14, 120, .inl (fun _ => 0))), (q15, .inl (cA16, 120, .inl (fun _ => 0)))] H := hP
  have hD : va_D A [(a0, .inr (7, [.int 0, .ref q1, .int 0, .int (-1), .int 0, .int 0, .int 0, .ref q3, .int 0, .int 0, .ref q5, .ref q7, .ref q9, .ref q11, .ref q13, .ref q15, .null, .int 0, .null, .null, .null, .int 0, .null, .null, .null, .int 0, .null, .int 0, .int 0])), (q1, .inl (cA2, 1200, .inl (fun _ => 0))), (q3, .inl (cA4, 1200, .inl (fun _ => 0))), (q5, .inl (cA6, 120, .inl (fun _ => 0))), (q7, .inl (cA8, 120, .inl (fun _ => 0))), (q9, .inl (cA10, 1080, .inl (fun _ => 0))), (q11, .inl (cA12, 1080, .inl (fun _ => 0))), (q13, .inl (cA14, 120, .inl (fun _ => 0))), (q15, .inl (cA16, 120, .inl (fun _ => 0)))] := hD
  refine lv_aload_n hx hb dX7_init_77 rfl (lv_at hl 0 rfl) ?_
  refine lv_bipush (v := 120) hx hb dX7_init_78 (by decide) ?_
  refine va_newa (atype := .int) (ty := .int) (a0 := (120, .inl (fun _ => 0))) (n := 120) (N' := 120) hx hb (hts (.arrayClass .int) k_14) rfl hK hP hD hS hA (fun _ => rfl) (by decide) (rfl) (Nat.le_of_ble_eq_true rfl) (Nat.le_of_ble_eq_true rfl) (Nat.le_of_ble_eq_true rfl) dX7_init_80 (fun q17 cA18 H hK hP hD hS => ?_)
  have hP : va_P (dC, dI) vwCl [(a0, .inr (7, [.int 0, .ref q1, .int 0, .int (-1), .int 0, .int 0, .int 0, .ref q3, .int 0, .int 0, .ref q5, .ref q7, .ref q9, .ref q11, .ref q13, .ref q15, .null, .int 0, .null, .null, .null, .int 0, .null, .null, .null, .int 0, .null, .int 0, .int 0])), (q1, .inl (cA2, 1200, .inl (fun _ => 0))), (q3, .inl (cA4, 1200, .inl (fun _ => 0))), (q5, .inl (cA6, 120, .inl (fun _ => 0))), (q7, .inl (cA8, 120, .inl (fun _ => 0))), (q9, .inl (cA10, 1080, .inl (fun _ => 0))), (q11, .inl (cA12, 1080, .inl (fun _ => 0))), (q13, .inl (cA14, 120, .inl (fun _ => 0))), (q15, .inl (cA16, 120, .inl (fun _ => 0))), (q17, .inl (cA18, 120, .inl (fun _ => 0)))] H := hP
  have hD : va_D A [(a0, .inr (7, [.int 0, .ref q1, .int 0, .int (-1), .int 0, .int 0, .int 0, .ref q3, .int 0, .int 0, .ref q5, .ref q7, .ref q9, .ref q11, .ref q13, .ref q15, .null, .int 0, .null, .null, .null, .int 0, .null, .null, .null, .int 0, .null, .int 0, .int 0])), (q1, .inl (cA2, 1200, .inl (fun _ => 0))), (q3, .inl (cA4, 1200, .inl (fun _ => 0))), (q5, .inl (cA6, 120, .inl (fun _ => 0))), (q7, .inl (cA8, 120, .inl (fun _ => 0))), (q9, .inl (cA10, 1080, .inl (fun _ => 0))), (q11, .inl (cA12, 1080, .inl (fun _ => 0))), (q13, .inl (cA14, 120, .inl (fun _ => 0))), (q15, .inl (cA16, 120, .inl (fun _ => 0))), (q17, .inl (cA18, 120, .inl (fun _ => 0)))] := hD
  have hK : va_K (dC, dI) vwCl [(cA2, .int), (cA4, .int), (cA6, .int), (cA8, .int), (cA10, .int), (cA12, .int), (cA14, .boolean), (cA16, .int), (cA18, .int)] s := hK
  refine W.widen (k := 9) (n := 5160) (Nat.le_of_ble_eq_true rfl) (Nat.le_of_ble_eq_true rfl) ?_
  refine va_putF (D := (dC, dI)) (ci := 7) (v := .ref q17) (ty := .array .int) (C := RX7) (T := TX7) (N := 29) hx hb hts inAll_7 tyX7 tyX7_ok nmX7 hown hK hP hD hS 0 rfl rfl 16 (by decide) (hts (.fieldLink RX7 39 "LoopEnvelopesModel" "depth" "[I") k_162) (fun _ h9 => h9) rfl hin rfl (by decide +kernel) rfl rfl (Nat.le_of_ble_eq_true rfl) dX7_init_82 (fun H locs hP hD hS => ?_)
  have hP : va_P (dC, dI) vwCl [(a0, .inr (7, [.int 0, .ref q1, .int 0, .int (-1), .int 0, .int 0, .int 0, .ref q3, .int 0, .int 0, .ref q5, .ref q7, .ref q9, .ref q11, .ref q13, .ref q15, .ref q17, .int 0, .null, .null, .null, .int 0, .null, .null, .null, .int 0, .null, .int 0, .int 0])), (q1, .inl (cA2, 1200, .inl (fun _ => 0))), (q3, .inl (cA4, 1200, .inl (fun _ => 0))), (q5, .inl (cA6, 120, .inl (fun _ => 0))), (q7, .inl (cA8, 120, .inl (fun _ => 0))), (q9, .inl (cA10, 1080, .inl (fun _ => 0))), (q11, .inl (cA12, 1080, .inl (fun _ => 0))), (q13, .inl (cA14, 120, .inl (fun _ => 0))), (q15, .inl (cA16, 120, .inl (fun _ => 0))), (q17, .inl (cA18, 120, .inl (fun _ => 0)))] H := hP
  have hD : va_D A [(a0, .inr (7, [.int 0, .ref q1, .int 0, .int (-1), .int 0, .int 0, .int 0, .ref q3, .int 0, .int 0, .ref q5, .ref q7, .ref q9, .ref q11, .ref q13, .ref q15, .ref q17, .int 0, .null, .null, .null, .int 0, .null, .null, .null, .int 0, .null, .int 0, .int 0])), (q1, .inl (cA2, 1200, .inl (fun _ => 0))), (q3, .inl (cA4, 1200, .inl (fun _ => 0))), (q5, .inl (cA6, 120, .inl (fun _ => 0))), (q7, .inl (cA8, 120, .inl (fun _ => 0))), (q9, .inl (cA10, 1080, .inl (fun _ => 0))), (q11, .inl (cA12, 1080, .inl (fun _ => 0))), (q13, .inl (cA14, 120, .inl (fun _ => 0))), (q15, .inl (cA16, 120, .inl (fun _ => 0))), (q17, .inl (cA18, 120, .inl (fun _ => 0)))] := hD
  refine lv_aload_n hx hb dX7_init_85 rfl (lv_at hl 0 rfl) ?_
  refine lv_bipush (v := 120) hx hb dX7_init_86 (by decide) ?_
  refine va_newa (atype := .int) (ty := .int) (a0 := (120, .inl (fun _ => 0))) (n := 120) (N' := 120) hx hb (hts (.arrayClass .int) k_14) rfl hK hP hD hS hA (fun _ => rfl) (by decide) (rfl) (Nat.le_of_ble_eq_true rfl) (Nat.le_of_ble_eq_true rfl) (Nat.le_of_ble_eq_true rfl) dX7_init_88 (fun q19 cA20 H hK hP hD hS => ?_)
  have hP : va_P (dC, dI) vwCl [(a0, .inr (7, [.int 0, .ref q1, .int 0, .int (-1), .int 0, .int 0, .int 0, .ref q3, .int 0, .int 0, .ref q5, .ref q7, .ref q9, .ref q11, .ref q13, .ref q15, .ref q17, .int 0, .null, .null, .null, .int 0, .null, .null, .null, .int 0, .null, .int 0, .int 0])), (q1, .inl (cA2, 1200, .inl (fun _ => 0))), (q3, .inl (cA4, 1200, .inl (fun _ => 0))), (q5, .inl (cA6, 120, .inl (fun _ => 0))), (q7, .inl (cA8, 120, .inl (fun _ => 0))), (q9, .inl (cA10, 1080, .inl (fun _ => 0))), (q11, .inl (cA12, 1080, .inl (fun _ => 0))), (q13, .inl (cA14, 120, .inl (fun _ => 0))), (q15, .inl (cA16, 120, .inl (fun _ => 0))), (q17, .inl (cA18, 120, .inl (fun _ => 0))), (q19, .inl (cA20, 120, .inl (fun _ => 0)))] H := hP
  have hD : va_D A [(a0, .inr (7, [.int 0, .ref q1, .int 0, .int (-1), .int 0, .int 0, .int 0, .ref q3, .int 0, .int 0, .ref q5, .ref q7, .ref q9, .ref q11, .ref q13, .ref q15, .ref q17, .int 0, .null, .null, .null, .int 0, .null, .null, .null, .int 0, .null, .int 0, .int 0])), (q1, .inl (cA2, 1200, .inl (fun _ => 0))), (q3, .inl (cA4, 1200, .inl (fun _ => 0))), (q5, .inl (cA6, 120, .inl (fun _ => 0))), (q7, .inl (cA8, 120, .inl (fun _ => 0))), (q9, .inl (cA10, 1080, .inl (fun _ => 0))), (q11, .inl (cA12, 1080, .inl (fun _ => 0))), (q13, .inl (cA14, 120, .inl (fun _ => 0))), (q15, .inl (cA16, 120, .inl (fun _ => 0))), (q17, .inl (cA18, 120, .inl (fun _ => 0))), (q19, .inl (cA20, 120, .inl (fun _ => 0)))] := hD
  have hK : va_K (dC, dI) vwCl [(cA2, .int), (cA4, .int), (cA6, .int), (cA8, .int), (cA10, .int), (cA12, .int), (cA14, .boolean), (cA16, .int), (cA18, .int), (cA20, .int)] s := hK
  refine W.widen (k := 10) (n := 5280) (Nat.le_of_ble_eq_true rfl) (Nat.le_of_ble_eq_true rfl) ?_
  refine va_putF (D := (dC, dI)) (ci := 7) (v := .ref q19) (ty := .array .int) (C := RX7) (T := TX7) (N := 29) hx hb hts inAll_7 tyX7 tyX7_ok nmX7 hown hK hP hD hS 0 rfl rfl 18 (by decide) (hts (.fieldLink RX7 42 "LoopEnvelopesModel" "groupSegment" "[I") k_163) (fun _ h9 => h9) rfl hin rfl (by decide +kernel) rfl rfl (Nat.le_of_ble_eq_true rfl) dX7_init_90 (fun H locs hP hD hS => ?_)
  have hP : va_P (dC, dI) vwCl [(a0, .inr (7, [.int 0, .ref q1, .int 0, .int (-1), .int 0, .int 0, .int 0, .ref q3, .int 0, .int 0, .ref q5, .ref q7, .ref q9, .ref q11, .ref q13, .ref q15, .ref q17, .int 0, .ref q19, .null, .null, .int 0, .null, .null, .null, .int 0, .null, .int 0, .int 0])), (q1, .inl (cA2, 1200, .inl (fun _ => 0))), (q3, .inl (cA4, 1200, .inl (fun _ => 0))), (q5, .inl (cA6, 120, .inl (fun _ => 0))), (q7, .inl (cA8, 120, .inl (fun _ => 0))), (q9, .inl (cA10, 1080, .inl (fun _ => 0))), (q11, .inl (cA12, 1080, .inl (fun _ => 0))), (q13, .inl (cA14, 120, .inl (fun _ => 0))), (q15, .inl (cA16, 120, .inl (fun _ => 0))), (q17, .inl (cA18, 120, .inl (fun _ => 0))), (q19, .inl (cA20, 120, .inl (fun _ => 0)))] H := hP
  have hD : va_D A [(a0, .inr (7, [.int 0, .ref q1, .int 0, .int (-1), .int 0, .int 0, .int 0, .ref q3, .int 0, .int 0, .ref q5, .ref q7, .ref q9, .ref q11, .ref q13, .ref q15, .ref q17, .int 0, .ref q19, .null, .null, .int 0, .null, .null, .null, .int 0, .null, .int 0, .int 0])), (q1, .inl (cA2, 1200, .inl (fun _ => 0))), (q3, .inl (cA4, 1200, .inl (fun _ => 0))), (q5, .inl (cA6, 120, .inl (fun _ => 0))), (q7, .inl (cA8, 120, .inl (fun _ => 0))), (q9, .inl (cA10, 1080, .inl (fun _ => 0))), (q11, .inl (cA12, 1080, .inl (fun _ => 0))), (q13, .inl (cA14, 120, .inl (fun _ => 0))), (q15, .inl (cA16, 120, .inl (fun _ => 0))), (q17, .inl (cA18, 120, .inl (fun _ => 0))), (q19, .inl (cA20, 120, .inl (fun _ => 0)))] := hD
  refine lv_aload_n hx hb dX7_init_93 rfl (lv_at hl 0 rfl) ?_
  refine lv_bipush (v := 120) hx hb dX7_init_94 (by decide) ?_
  refine va_newa (atype := .int) (ty := .int) (a0 := (120, .inl (fun _ => 0))) (n := 120) (N' := 120) hx hb (hts (.arrayClass .int) k_14) rfl hK hP hD hS hA (fun _ => rfl) (by decide) (rfl) (Nat.le_of_ble_eq_true rfl) (Nat.le_of_ble_eq_true rfl) (Nat.le_of_ble_eq_true rfl) dX7_init_96 (fun q21 cA22 H hK hP hD hS => ?_)
  have hP : va_P (dC, dI) vwCl [(a0, .inr (7, [.int 0, .ref q1, .int 0, .int (-1), .int 0, .int 0, .int 0, .ref q3, .int 0, .int 0, .ref q5, .ref q7, .ref q9, .ref q11, .ref q13, .ref q15, .ref q17, .int 0, .ref q19, .null, .null, .int 0, .null, .null, .null, .int 0, .null, .int 0, .int 0])), (q1, .inl (cA2, 1200, .inl (fun _ => 0))), (q3, .inl (cA4, 1200, .inl (fun _ => 0))), (q5, .inl (cA6, 120, .inl (fun _ => 0))), (q7, .inl (cA8, 120, .inl (fun _ => 0))), (q9, .inl (cA10, 1080, .inl (fun _ => 0))), (q11, .inl (cA12, 1080, .inl (fun _ => 0))), (q13, .inl (cA14, 120, .inl (fun _ => 0))), (q15, .inl (cA16, 120, .inl (fun _ => 0))), (q17, .inl (cA18, 120, .inl (fun _ => 0))), (q19, .inl (cA20, 120, .inl (fun _ => 0))), (q21, .inl (cA22, 120, .inl (fun _ => 0)))] H := hP
  have hD : va_D A [(a0, .inr (7, [.int 0, .ref q1, .int 0, .int (-1), .int 0, .int 0, .int 0, .ref q3, .int 0, .int 0, .ref q5, .ref q7, .ref q9, .ref q11, .ref q13, .ref q15, .ref q17, .int 0, .ref q19, .null, .null, .int 0, .null, .null, .null, .int 0, .null, .int 0, .int 0])), (q1, .inl (cA2, 1200, .inl (fun _ => 0))), (q3, .inl (cA4, 1200, .inl (fun _ => 0))), (q5, .inl (cA6, 120, .inl (fun _ => 0))), (q7, .inl (cA8, 120, .inl (fun _ => 0))), (q9, .inl (cA10, 1080, .inl (fun _ => 0))), (q11, .inl (cA12, 1080, .inl (fun _ => 0))), (q13, .inl (cA14, 120, .inl (fun _ => 0))), (q15, .inl (cA16, 120, .inl (fun _ => 0))), (q17, .inl (cA18, 120, .inl (fun _ => 0))), (q19, .inl (cA20, 120, .inl (fun _ => 0))), (q21, .inl (cA22, 120, .inl (fun _ => 0)))] := hD
  have hK : va_K (dC, dI) vwCl [(cA2, .int), (cA4, .int), (cA6, .int), (cA8, .int), (cA10, .int), (cA12, .int), (cA14, .boolean), (cA16, .int), (cA18, .int), (cA20, .int), (cA22, .int)] s := hK
  refine W.widen (k := 11) (n := 5400) (Nat.le_of_ble_eq_true rfl) (Nat.le_of_ble_eq_true rfl) ?_
  refine va_putF (D := (dC, dI)) (ci := 7) (v := .ref q21) (ty := .array .int) (C := RX7) (T := TX7) (N := 29) hx hb hts inAll_7 tyX7 tyX7_ok nmX7 hown hK hP hD hS 0 rfl rfl 19 (by decide) (hts (.fieldLink RX7 45 "LoopEnvelopesModel" "groupFirst" "[I") k_164) (fun _ h9 => h9) rfl hin rfl (by decide +kernel) rfl rfl (Nat.le_of_ble_eq_true rfl) dX7_init_98 (fun H locs hP hD hS => ?_)
  have hP : va_P (dC, dI) vwCl [(a0, .inr (7, [.int 0, .ref q1, .int 0, .int (-1), .int 0, .int 0, .int 0, .ref q3, .int 0, .int 0, .ref q5, .ref q7, .ref q9, .ref q11, .ref q13, .ref q15, .ref q17, .int 0, .ref q19, .ref q21, .null, .int 0, .null, .null, .null, .int 0, .null, .int 0, .int 0])), (q1, .inl (cA2, 1200, .inl (fun _ => 0))), (q3, .inl (cA4, 1200, .inl (fun _ => 0))), (q5, .inl (cA6, 120, .inl (fun _ => 0))), (q7, .inl (cA8, 120, .inl (fun _ => 0))), (q9, .inl (cA10, 1080, .inl (fun _ => 0))), (q11, .inl (cA12, 1080, .inl (fun _ => 0))), (q13, .inl (cA14, 120, .inl (fun _ => 0))), (q15, .inl (cA16, 120, .inl (fun _ => 0))), (q17, .inl (cA18, 120, .inl (fun _ => 0))), (q19, .inl (cA20, 120, .inl (fun _ => 0))), (q21, .inl (cA22, 120, .inl (fun _ => 0)))] H := hP
  have hD : va_D A [(a0, .inr (7, [.int 0, .ref q1, .int 0, .int (-1), .int 0, .int 0, .int 0, .ref q3, .int 0, .int 0, .ref q5, .ref q7, .ref q9, .ref q11, .ref q13, .ref q15, .ref q17, .int 0, .ref q19, .ref q21, .null, .int 0, .null, .null, .null, .int 0, .null, .int 0, .int 0])), (q1, .inl (cA2, 1200, .inl (fun _ => 0))), (q3, .inl (cA4, 1200, .inl (fun _ => 0))), (q5, .inl (cA6, 120, .inl (fun _ => 0))), (q7, .inl (cA8, 120, .inl (fun _ => 0))), (q9, .inl (cA10, 1080, .inl (fun _ => 0))), (q11, .inl (cA12, 1080, .inl (fun _ => 0))), (q13, .inl (cA14, 120, .inl (fun _ => 0))), (q15, .inl (cA16, 120, .inl (fun _ => 0))), (q17, .inl (cA18, 120, .inl (fun _ => 0))), (q19, .inl (cA20, 120, .inl (fun _ => 0))), (q21, .inl (cA22, 120, .inl (fun _ => 0)))] := hD
  refine lv_aload_n hx hb dX7_init_101 rfl (lv_at hl 0 rfl) ?_
  refine lv_bipush (v := 120) hx hb dX7_init_102 (by decide) ?_
  refine va_newa (atype := .int) (ty := .int) (a0 := (120, .inl (fun _ => 0))) (n := 120) (N' := 120) hx hb (hts (.arrayClass .int) k_14) rfl hK hP hD hS hA (fun _ => rfl) (by decide) (rfl) (Nat.le_of_ble_eq_true rfl) (Nat.le_of_ble_eq_true rfl) (Nat.le_of_ble_eq_true rfl) dX7_init_104 (fun q23 cA24 H hK hP hD hS => ?_)
  have hP : va_P (dC, dI) vwCl [(a0, .inr (7, [.int 0, .ref q1, .int 0, .int (-1), .int 0, .int 0, .int 0, .ref q3, .int 0, .int 0, .ref q5, .ref q7, .ref q9, .ref q11, .ref q13, .ref q15, .ref q17, .int 0, .ref q19, .ref q21, .null, .int 0, .null, .null, .null, .int 0, .null, .int 0, .int 0])), (q1, .inl (cA2, 1200, .inl (fun _ => 0))), (q3, .inl (cA4, 1200, .inl (fun _ => 0))), (q5, .inl (cA6, 120, .inl (fun _ => 0))), (q7, .inl (cA8, 120, .inl (fun _ => 0))), (q9, .inl (cA10, 1080, .inl (fun _ => 0))), (q11, .inl (cA12, 1080, .inl (fun _ => 0))), (q13, .inl (cA14, 120, .inl (fun _ => 0))), (q15, .inl (cA16, 120, .inl (fun _ => 0))), (q17, .inl (cA18, 120, .inl (fun _ => 0))), (q19, .inl (cA20, 120, .inl (fun _ => 0))), (q21, .inl (cA22, 120, .inl (fun _ => 0))), (q23, .inl (cA24, 120, .inl (fun _ => 0)))] H := hP
  have hD : va_D A [(a0, .inr (7, [.int 0, .ref q1, .int 0, .int (-1), .int 0, .int 0, .int 0, .ref q3, .int 0, .int 0, .ref q5, .ref q7, .ref q9, .ref q11, .ref q13, .ref q15, .ref q17, .int 0, .ref q19, .ref q21, .null, .int 0, .null, .null, .null, .int 0, .null, .int 0, .int 0])), (q1, .inl (cA2, 1200, .inl (fun _ => 0))), (q3, .inl (cA4, 1200, .inl (fun _ => 0))), (q5, .inl (cA6, 120, .inl (fun _ => 0))), (q7, .inl (cA8, 120, .inl (fun _ => 0))), (q9, .inl (cA10, 1080, .inl (fun _ => 0))), (q11, .inl (cA12, 1080, .inl (fun _ => 0))), (q13, .inl (cA14, 120, .inl (fun _ => 0))), (q15, .inl (cA16, 120, .inl (fun _ => 0))), (q17, .inl (cA18, 120, .inl (fun _ => 0))), (q19, .inl (cA20, 120, .inl (fun _ => 0))), (q21, .inl (cA22, 120, .inl (fun _ => 0))), (q23, .inl (cA24, 120, .inl (fun _ => 0)))] := hD
  have hK : va_K (dC, dI) vwCl [(cA2, .int), (cA4, .int), (cA6, .int), (cA8, .int), (cA10, .int), (cA12, .int), (cA14, .boolean), (cA16, .int), (cA18, .int), (cA20, .int), (cA22, .int), (cA24, .int)] s := hK
  refine W.widen (k := 12) (n := 5520) (Nat.le_of_ble_eq_true rfl) (Nat.le_of_ble_eq_true rfl) ?_
  refine va_putF (D := (dC, dI)) (ci := 7) (v := .ref q23) (ty := .array .int) (C := RX7) (T := TX7) (N := 29) hx hb hts inAll_7 tyX7 tyX7_ok nmX7 hown hK hP hD hS 0 rfl rfl 20 (by decide) (hts (.fieldLink RX7 48 "LoopEnvelopesModel" "groupSets" "[I") k_165) (fun _ h9 => h9) rfl hin rfl (by decide +kernel) rfl rfl (Nat.le_of_ble_eq_true rfl) dX7_init_106 (fun H locs hP hD hS => ?_)
  have hP : va_P (dC, dI) vwCl [(a0, .inr (7, [.int 0, .ref q1, .int 0, .int (-1), .int 0, .int 0, .int 0, .ref q3, .int 0, .int 0, .ref q5, .ref q7, .ref q9, .ref q11, .ref q13, .ref q15, .ref q17, .int 0, .ref q19, .ref q21, .ref q23, .int 0, .null, .null, .null, .int 0, .null, .int 0, .int 0])), (q1, .inl (cA2, 1200, .inl (fun _ => 0))), (q3, .inl (cA4, 1200, .inl (fun _ => 0))), (q5, .inl (cA6, 120, .inl (fun _ => 0))), (q7, .inl (cA8, 120, .inl (fun _ => 0))), (q9, .inl (cA10, 1080, .inl (fun _ => 0))), (q11, .inl (cA12, 1080, .inl (fun _ => 0))), (q13, .inl (cA14, 120, .inl (fun _ => 0))), (q15, .inl (cA16, 120, .inl (fun _ => 0))), (q17, .inl (cA18, 120, .inl (fun _ => 0))), (q19, .inl (cA20, 120, .inl (fun _ => 0))), (q21, .inl (cA22, 120, .inl (fun _ => 0))), (q23, .inl (cA24, 120, .inl (fun _ => 0)))] H := hP
  have hD : va_D A [(a0, .inr (7, [.int 0, .ref q1, .int 0, .int (-1), .int 0, .int 0, .int 0, .ref q3, .int 0, .int 0, .ref q5, .ref q7, .ref q9, .ref q11, .ref q13, .ref q15, .ref q17, .int 0, .ref q19, .ref q21, .ref q23, .int 0, .null, .null, .null, .int 0, .null, .int 0, .int 0])), (q1, .inl (cA2, 1200, .inl (fun _ => 0))), (q3, .inl (cA4, 1200, .inl (fun _ => 0))), (q5, .inl (cA6, 120, .inl (fun _ => 0))), (q7, .inl (cA8, 120, .inl (fun _ => 0))), (q9, .inl (cA10, 1080, .inl (fun _ => 0))), (q11, .inl (cA12, 1080, .inl (fun _ => 0))), (q13, .inl (cA14, 120, .inl (fun _ => 0))), (q15, .inl (cA16, 120, .inl (fun _ => 0))), (q17, .inl (cA18, 120, .inl (fun _ => 0))), (q19, .inl (cA20, 120, .inl (fun _ => 0))), (q21, .inl (cA22, 120, .inl (fun _ => 0))), (q23, .inl (cA24, 120, .inl (fun _ => 0)))] := hD
  refine lv_aload_n hx hb dX7_init_109 rfl (lv_at hl 0 rfl) ?_
  refine lv_bipush (v := 24) hx hb dX7_init_110 (by decide) ?_
  refine va_newa (atype := .int) (ty := .int) (a0 := (24, .inl (fun _ => 0))) (n := 24) (N' := 24) hx hb (hts (.arrayClass .int) k_14) rfl hK hP hD hS hA (fun _ => rfl) (by decide) (rfl) (Nat.le_of_ble_eq_true rfl) (Nat.le_of_ble_eq_true rfl) (Nat.le_of_ble_eq_true rfl) dX7_init_112 (fun q25 cA26 H hK hP hD hS => ?_)
  have hP : va_P (dC, dI) vwCl [(a0, .inr (7, [.int 0, .ref q1, .int 0, .int (-1), .int 0, .int 0, .int 0, .ref q3, .int 0, .int 0, .ref q5, .ref q7, .ref q9, .ref q11, .ref q13, .ref q15, .ref q17, .int 0, .ref q19, .ref q21, .ref q23, .int 0, .null, .null, .null, .int 0, .null, .int 0, .int 0])), (q1, .inl (cA2, 1200, .inl (fun _ => 0))), (q3, .inl (cA4, 1200, .inl (fun _ => 0))), (q5, .inl (cA6, 120, .inl (fun _ => 0))), (q7, .inl (cA8, 120, .inl (fun _ => 0))), (q9, .inl (cA10, 1080, .inl (fun _ => 0))), (q11, .inl (cA12, 1080, .inl (fun _ => 0))), (q13, .inl (cA14, 120, .inl (fun _ => 0))), (q15, .inl (cA16, 120, .inl (fun _ => 0))), (q17, .inl (cA18, 120, .inl (fun _ => 0))), (q19, .inl (cA20, 120, .inl (fun _ => 0))), (q21, .inl (cA22, 120, .inl (fun _ => 0))), (q23, .inl (cA24, 120, .inl (fun _ => 0))), (q25, .inl (cA26, 24, .inl (fun _ => 0)))] H := hP
  have hD : va_D A [(a0, .inr (7, [.int 0, .ref q1, .int 0, .int (-1), .int 0, .int 0, .int 0, .ref q3, .int 0, .int 0, .ref q5, .ref q7, .ref q9, .ref q11, .ref q13, .ref q15, .ref q17, .int 0, .ref q19, .ref q21, .ref q23, .int 0, .null, .null, .null, .int 0, .null, .int 0, .int 0])), (q1, .inl (cA2, 1200, .inl (fun _ => 0))), (q3, .inl (cA4, 1200, .inl (fun _ => 0))), (q5, .inl (cA6, 120, .inl (fun _ => 0))), (q7, .inl (cA8, 120, .inl (fun _ => 0))), (q9, .inl (cA10, 1080, .inl (fun _ => 0))), (q11, .inl (cA12, 1080, .inl (fun _ => 0))), (q13, .inl (cA14, 120, .inl (fun _ => 0))), (q15, .inl (cA16, 120, .inl (fun _ => 0))), (q17, .inl (cA18, 120, .inl (fun _ => 0))), (q19, .inl (cA20, 120, .inl (fun _ => 0))), (q21, .inl (cA22, 120, .inl (fun _ => 0))), (q23, .inl (cA24, 120, .inl (fun _ => 0))), (q25, .inl (cA26, 24, .inl (fun _ => 0)))] := hD
  have hK : va_K (dC, dI) vwCl [(cA2, .int), (cA4, .int), (cA6, .int), (cA8, .int), (cA10, .int), (cA12, .int), (cA14, .boolean), (cA16, .int), (cA18, .int), (cA20, .int), (cA22, .int), (cA24, .int), (cA26, .int)] s := hK
  refine W.widen (k := 13) (n := 5544) (Nat.le_of_ble_eq_true rfl) (Nat.le_of_ble_eq_true rfl) ?_
  refine va_putF (D := (dC, dI)) (ci := 7) (v := .ref q25) (ty := .array .int) (C := RX7) (T := TX7) (N := 29) hx hb hts inAll_7 tyX7 tyX7_ok nmX7 hown hK hP hD hS 0 rfl rfl 22 (by decide) (hts (.fieldLink RX7 51 "LoopEnvelopesModel" "setGroup" "[I") k_166) (fun _ h9 => h9) rfl hin rfl (by decide +kernel) rfl rfl (Nat.le_of_ble_eq_true rfl) dX7_init_114 (fun H locs hP hD hS => ?_)
  have hP : va_P (dC, dI) vwCl [(a0, .inr (7, [.int 0, .ref q1, .int 0, .int (-1), .int 0, .int 0, .int 0, .ref q3, .int 0, .int 0, .ref q5, .ref q7, .ref q9, .ref q11, .ref q13, .ref q15, .ref q17, .int 0, .ref q19, .ref q21, .ref q23, .int 0, .ref q25, .null, .null, .int 0, .null, .int 0, .int 0])), (q1, .inl (cA2, 1200, .inl (fun _ => 0))), (q3, .inl (cA4, 1200, .inl (fun _ => 0))), (q5, .inl (cA6, 120, .inl (fun _ => 0))), (q7, .inl (cA8, 120, .inl (fun _ => 0))), (q9, .inl (cA10, 1080, .inl (fun _ => 0))), (q11, .inl (cA12, 1080, .inl (fun _ => 0))), (q13, .inl (cA14, 120, .inl (fun _ => 0))), (q15, .inl (cA16, 120, .inl (fun _ => 0))), (q17, .inl (cA18, 120, .inl (fun _ => 0))), (q19, .inl (cA20, 120, .inl (fun _ => 0))), (q21, .inl (cA22, 120, .inl (fun _ => 0))), (q23, .inl (cA24, 120, .inl (fun _ => 0))), (q25, .inl (cA26, 24, .inl (fun _ => 0)))] H := hP
  have hD : va_D A [(a0, .inr (7, [.int 0, .ref q1, .int 0, .int (-1), .int 0, .int 0, .int 0, .ref q3, .int 0, .int 0, .ref q5, .ref q7, .ref q9, .ref q11, .ref q13, .ref q15, .ref q17, .int 0, .ref q19, .ref q21, .ref q23, .int 0, .ref q25, .null, .null, .int 0, .null, .int 0, .int 0])), (q1, .inl (cA2, 1200, .inl (fun _ => 0))), (q3, .inl (cA4, 1200, .inl (fun _ => 0))), (q5, .inl (cA6, 120, .inl (fun _ => 0))), (q7, .inl (cA8, 120, .inl (fun _ => 0))), (q9, .inl (cA10, 1080, .inl (fun _ => 0))), (q11, .inl (cA12, 1080, .inl (fun _ => 0))), (q13, .inl (cA14, 120, .inl (fun _ => 0))), (q15, .inl (cA16, 120, .inl (fun _ => 0))), (q17, .inl (cA18, 120, .inl (fun _ => 0))), (q19, .inl (cA20, 120, .inl (fun _ => 0))), (q21, .inl (cA22, 120, .inl (fun _ => 0))), (q23, .inl (cA24, 120, .inl (fun _ => 0))), (q25, .inl (cA26, 24, .inl (fun _ => 0)))] := hD
  refine lv_aload_n hx hb dX7_init_117 rfl (lv_at hl 0 rfl) ?_
  refine lv_bipush (v := 24) hx hb dX7_init_118 (by decide) ?_
  refine va_newa (atype := .int) (ty := .int) (a0 := (24, .inl (fun _ => 0))) (n := 24) (N' := 24) hx hb (hts (.arrayClass .int) k_14) rfl hK hP hD hS hA (fun _ => rfl) (by decide) (rfl) (Nat.le_of_ble_eq_true rfl) (Nat.le_of_ble_eq_true rfl) (Nat.le_of_ble_eq_true rfl) dX7_init_120 (fun q27 cA28 H hK hP hD hS => ?_)
  have hP : va_P (dC, dI) vwCl [(a0, .inr (7, [.int 0, .ref q1, .int 0, .int (-1), .int 0, .int 0, .int 0, .ref q3, .int 0, .int 0, .ref q5, .ref q7, .ref q9, .ref q11, .ref q13, .ref q15, .ref q17, .int 0, .ref q19, .ref q21, .ref q23, .int 0, .ref q25, .null, .null, .int 0, .null, .int 0, .int 0])), (q1, .inl (cA2, 1200, .inl (fun _ => 0))), (q3, .inl (cA4, 1200, .inl (fun _ => 0))), (q5, .inl (cA6, 120, .inl (fun _ => 0))), (q7, .inl (cA8, 120, .inl (fun _ => 0))), (q9, .inl (cA10, 1080, .inl (fun _ => 0))), (q11, .inl (cA12, 1080, .inl (fun _ => 0))), (q13, .inl (cA14, 120, .inl (fun _ => 0))), (q15, .inl (cA16, 120, .inl (fun _ => 0))), (q17, .inl (cA18, 120, .inl (fun _ => 0))), (q19, .inl (cA20, 120, .inl (fun _ => 0))), (q21, .inl (cA22, 120, .inl (fun _ => 0))), (q23, .inl (cA24, 120, .inl (fun _ => 0))), (q25, .inl (cA26, 24, .inl (fun _ => 0))), (q27, .inl (cA28, 24, .inl (fun _ => 0)))] H := hP
  have hD : va_D A [(a0, .inr (7, [.int 0, .ref q1, .int 0, .int (-1), .int 0, .int 0, .int 0, .ref q3, .int 0, .int 0, .ref q5, .ref q7, .ref q9, .ref q11, .ref q13, .ref q15, .ref q17, .int 0, .ref q19, .ref q21, .ref q23, .int 0, .ref q25, .null, .null, .int 0, .null, .int 0, .int 0])), (q1, .inl (cA2, 1200, .inl (fun _ => 0))), (q3, .inl (cA4, 1200, .inl (fun _ => 0))), (q5, .inl (cA6, 120, .inl (fun _ => 0))), (q7, .inl (cA8, 120, .inl (fun _ => 0))), (q9, .inl (cA10, 1080, .inl (fun _ => 0))), (q11, .inl (cA12, 1080, .inl (fun _ => 0))), (q13, .inl (cA14, 120, .inl (fun _ => 0))), (q15, .inl (cA16, 120, .inl (fun _ => 0))), (q17, .inl (cA18, 120, .inl (fun _ => 0))), (q19, .inl (cA20, 120, .inl (fun _ => 0))), (q21, .inl (cA22, 120, .inl (fun _ => 0))), (q23, .inl (cA24, 120, .inl (fun _ => 0))), (q25, .inl (cA26, 24, .inl (fun _ => 0))), (q27, .inl (cA28, 24, .inl (fun _ => 0)))] := hD
  have hK : va_K (dC, dI) vwCl [(cA2, .int), (cA4, .int), (cA6, .int), (cA8, .int), (cA10, .int), (cA12, .int), (cA14, .boolean), (cA16, .int), (cA18, .int), (cA20, .int), (cA22, .int), (cA24, .int), (cA26, .int), (cA28, .int)] s := hK
  refine W.widen (k := 14) (n := 5568) (Nat.le_of_ble_eq_true rfl) (Nat.le_of_ble_eq_true rfl) ?_
  refine va_putF (D := (dC, dI)) (ci := 7) (v := .ref q27) (ty := .array .int) (C := RX7) (T := TX7) (N := 29) hx hb hts inAll_7 tyX7 tyX7_ok nmX7 hown hK hP hD hS 0 rfl rfl 23 (by decide) (hts (.fieldLink RX7 54 "LoopEnvelopesModel" "setFirst" "[I") k_167) (fun _ h9 => h9) rfl hin rfl (by decide +kernel) rfl rfl (Nat.le_of_ble_eq_true rfl) dX7_init_122 (fun H locs hP hD hS => ?_)
  have hP : va_P (dC, dI) vwCl [(a0, .inr (7, [.int 0, .ref q1, .int 0, .int (-1), .int 0, .int 0, .int 0, .ref q3, .int 0, .int 0, .ref q5, .ref q7, .ref q9, .ref q11, .ref q13, .ref q15, .ref q17, .int 0, .ref q19, .ref q21, .ref q23, .int 0, .ref q25, .ref q27, .null, .int 0, .null, .int 0, .int 0])), (q1, .inl (cA2, 1200, .inl (fun _ => 0))), (q3, .inl (cA4, 1200, .inl (fun _ => 0))), (q5, .inl (cA6, 120, .inl (fun _ => 0))), (q7, .inl (cA8, 120, .inl (fun _ => 0))), (q9, .inl (cA10, 1080, .inl (fun _ => 0))), (q11, .inl (cA12, 1080, .inl (fun _ => 0))), (q13, .inl (cA14, 120, .inl (fun _ => 0))), (q15, .inl (cA16, 120, .inl (fun _ => 0))), (q17, .inl (cA18, 120, .inl (fun _ => 0))), (q19, .inl (cA20, 120, .inl (fun _ => 0))), (q21, .inl (cA22, 120, .inl (fun _ => 0))), (q23, .inl (cA24, 120, .inl (fun _ => 0))), (q25, .inl (cA26, 24, .inl (fun _ => 0))), (q27, .inl (cA28, 24, .inl (fun _ => 0)))] H := hP
  have hD : va_D A [(a0, .inr (7, [.int 0, .ref q1, .int 0, .int (-1), .int 0, .int 0, .int 0, .ref q3, .int 0, .int 0, .ref q5, .ref q7, .ref q9, .ref q11, .ref q13, .ref q15, .ref q17, .int 0, .ref q19, .ref q21, .ref q23, .int 0, .ref q25, .ref q27, .null, .int 0, .null, .int 0, .int 0])), (q1, .inl (cA2, 1200, .inl (fun _ => 0))), (q3, .inl (cA4, 1200, .inl (fun _ => 0))), (q5, .inl (cA6, 120, .inl (fun _ => 0))), (q7, .inl (cA8, 120, .inl (fun _ => 0))), (q9, .inl (cA10, 1080, .inl (fun _ => 0))), (q11, .inl (cA12, 1080, .inl (fun _ => 0))), (q13, .inl (cA14, 120, .inl (fun _ => 0))), (q15, .inl (cA16, 120, .inl (fun _ => 0))), (q17, .inl (cA18, 120, .inl (fun _ => 0))), (q19, .inl (cA20, 120, .inl (fun _ => 0))), (q21, .inl (cA22, 120, .inl (fun _ => 0))), (q23, .inl (cA24, 120, .inl (fun _ => 0))), (q25, .inl (cA26, 24, .inl (fun _ => 0))), (q27, .inl (cA28, 24, .inl (fun _ => 0)))] := hD
  refine lv_aload_n hx hb dX7_init_125 rfl (lv_at hl 0 rfl) ?_
  refine lv_bipush (v := 24) hx hb dX7_init_126 (by decide) ?_
  refine va_newa (atype := .int) (ty := .int) (a0 := (24, .inl (fun _ => 0))) (n := 24) (N' := 24) hx hb (hts (.arrayClass .int) k_14) rfl hK hP hD hS hA (fun _ => rfl) (by decide) (rfl) (Nat.le_of_ble_eq_true rfl) (Nat.le_of_ble_eq_true rfl) (Nat.le_of_ble_eq_true rfl) dX7_init_128 (fun q29 cA30 H hK hP hD hS => ?_)
  have hP : va_P (dC, dI) vwCl [(a0, .inr (7, [.int 0, .ref q1, .int 0, .int (-1), .int 0, .int 0, .int 0, .ref q3, .int 0, .int 0, .ref q5, .ref q7, .ref q9, .ref q11, .ref q13, .ref q15, .ref q17, .int 0, .ref q19, .ref q21, .ref q23, .int 0, .ref q25, .ref q27, .null, .int 0, .null, .int 0, .int 0])), (q1, .inl (cA2, 1200, .inl (fun _ => 0))), (q3, .inl (cA4, 1200, .inl (fun _ => 0))), (q5, .inl (cA6, 120, .inl (fun _ => 0))), (q7, .inl (cA8, 120, .inl (fun _ => 0))), (q9, .inl (cA10, 1080, .inl (fun _ => 0))), (q11, .inl (cA12, 1080, .inl (fun _ => 0))), (q13, .inl (cA14, 120, .inl (fun _ => 0))), (q15, .inl (cA16, 120, .inl (fun _ => 0))), (q17, .inl (cA18, 120, .inl (fun _ => 0))), (q19, .inl (cA20, 120, .inl (fun _ => 0))), (q21, .inl (cA22, 120, .inl (fun _ => 0))), (q23, .inl (cA24, 120, .inl (fun _ => 0))), (q25, .inl (cA26, 24, .inl (fun _ => 0))), (q27, .inl (cA28, 24, .inl (fun _ => 0))), (q29, .inl (cA30, 24, .inl (fun _ => 0)))] H := hP
  have hD : va_D A [(a0, .inr (7, [.int 0, .ref q1, .int 0, .int (-1), .int 0, .int 0, .int 0, .ref q3, .int 0, .int 0, .ref q5, .ref q7, .ref q9, .ref q11, .ref q13, .ref q15, .ref q17, .int 0, .ref q19, .ref q21, .ref q23, .int 0, .ref q25, .ref q27, .null, .int 0, .null, .int 0, .int 0])), (q1, .inl (cA2, 1200, .inl (fun _ => 0))), (q3, .inl (cA4, 1200, .inl (fun _ => 0))), (q5, .inl (cA6, 120, .inl (fun _ => 0))), (q7, .inl (cA8, 120, .inl (fun _ => 0))), (q9, .inl (cA10, 1080, .inl (fun _ => 0))), (q11, .inl (cA12, 1080, .inl (fun _ => 0))), (q13, .inl (cA14, 120, .inl (fun _ => 0))), (q15, .inl (cA16, 120, .inl (fun _ => 0))), (q17, .inl (cA18, 120, .inl (fun _ => 0))), (q19, .inl (cA20, 120, .inl (fun _ => 0))), (q21, .inl (cA22, 120, .inl (fun _ => 0))), (q23, .inl (cA24, 120, .inl (fun _ => 0))), (q25, .inl (cA26, 24, .inl (fun _ => 0))), (q27, .inl (cA28, 24, .inl (fun _ => 0))), (q29, .inl (cA30, 24, .inl (fun _ => 0)))] := hD
  have hK : va_K (dC, dI) vwCl [(cA2, .int), (cA4, .int), (cA6, .int), (cA8, .int), (cA10, .int), (cA12, .int), (cA14, .boolean), (cA16, .int), (cA18, .int), (cA20, .int), (cA22, .int), (cA24, .int), (cA26, .int), (cA28, .int), (cA30, .int)] s := hK
  refine W.widen (k := 15) (n := 5592) (Nat.le_of_ble_eq_true rfl) (Nat.le_of_ble_eq_true rfl) ?_
  refine va_putF (D := (dC, dI)) (ci := 7) (v := .ref q29) (ty := .array .int) (C := RX7) (T := TX7) (N := 29) hx hb hts inAll_7 tyX7 tyX7_ok nmX7 hown hK hP hD hS 0 rfl rfl 24 (by decide) (hts (.fieldLink RX7 57 "LoopEnvelopesModel" "setMany" "[I") k_168) (fun _ h9 => h9) rfl hin rfl (by decide +kernel) rfl rfl (Nat.le_of_ble_eq_true rfl) dX7_init_130 (fun H locs hP hD hS => ?_)
  have hP : va_P (dC, dI) vwCl [(a0, .inr (7, [.int 0, .ref q1, .int 0, .int (-1), .int 0, .int 0, .int 0, .ref q3, .int 0, .int 0, .ref q5, .ref q7, .ref q9, .ref q11, .ref q13, .ref q15, .ref q17, .int 0, .ref q19, .ref q21, .ref q23, .int 0, .ref q25, .ref q27, .ref q29, .int 0, .null, .int 0, .int 0])), (q1, .inl (cA2, 1200, .inl (fun _ => 0))), (q3, .inl (cA4, 1200, .inl (fun _ => 0))), (q5, .inl (cA6, 120, .inl (fun _ => 0))), (q7, .inl (cA8, 120, .inl (fun _ => 0))), (q9, .inl (cA10, 1080, .inl (fun _ => 0))), (q11, .inl (cA12, 1080, .inl (fun _ => 0))), (q13, .inl (cA14, 120, .inl (fun _ => 0))), (q15, .inl (cA16, 120, .inl (fun _ => 0))), (q17, .inl (cA18, 120, .inl (fun _ => 0))), (q19, .inl (cA20, 120, .inl (fun _ => 0))), (q21, .inl (cA22, 120, .inl (fun _ => 0))), (q23, .inl (cA24, 120, .inl (fun _ => 0))), (q25, .inl (cA26, 24, .inl (fun _ => 0))), (q27, .inl (cA28, 24, .inl (fun _ => 0))), (q29, .inl (cA30, 24, .inl (fun _ => 0)))] H := hP
  have hD : va_D A [(a0, .inr (7, [.int 0, .ref q1, .int 0, .int (-1), .int 0, .int 0, .int 0, .ref q3, .int 0, .int 0, .ref q5, .ref q7, .ref q9, .ref q11, .ref q13, .ref q15, .ref q17, .int 0, .ref q19, .ref q21, .ref q23, .int 0, .ref q25, .ref q27, .ref q29, .int 0, .null, .int 0, .int 0])), (q1, .inl (cA2, 1200, .inl (fun _ => 0))), (q3, .inl (cA4, 1200, .inl (fun _ => 0))), (q5, .inl (cA6, 120, .inl (fun _ => 0))), (q7, .inl (cA8, 120, .inl (fun _ => 0))), (q9, .inl (cA10, 1080, .inl (fun _ => 0))), (q11, .inl (cA12, 1080, .inl (fun _ => 0))), (q13, .inl (cA14, 120, .inl (fun _ => 0))), (q15, .inl (cA16, 120, .inl (fun _ => 0))), (q17, .inl (cA18, 120, .inl (fun _ => 0))), (q19, .inl (cA20, 120, .inl (fun _ => 0))), (q21, .inl (cA22, 120, .inl (fun _ => 0))), (q23, .inl (cA24, 120, .inl (fun _ => 0))), (q25, .inl (cA26, 24, .inl (fun _ => 0))), (q27, .inl (cA28, 24, .inl (fun _ => 0))), (q29, .inl (cA30, 24, .inl (fun _ => 0)))] := hD
  refine lv_aload_n hx hb dX7_init_133 rfl (lv_at hl 0 rfl) ?_
  refine lv_sipush (v := 2000) hx hb dX7_init_134 (by decide) ?_
  refine va_newa (atype := .int) (ty := .int) (a0 := (2000, .inl (fun _ => 0))) (n := 2000) (N' := 2000) hx hb (hts (.arrayClass .int) k_14) rfl hK hP hD hS hA (fun _ => rfl) (by decide) (rfl) (Nat.le_of_ble_eq_true rfl) (Nat.le_of_ble_eq_true rfl) (Nat.le_of_ble_eq_true rfl) dX7_init_137 (fun q31 cA32 H hK hP hD hS => ?_)
  have hP : va_P (dC, dI) vwCl [(a0, .inr (7, [.int 0, .ref q1, .int 0, .int (-1), .int 0, .int 0, .int 0, .ref q3, .int 0, .int 0, .ref q5, .ref q7, .ref q9, .ref q11, .ref q13, .ref q15, .ref q17, .int 0, .ref q19, .ref q21, .ref q23, .int 0, .ref q25, .ref q27, .ref q29, .int 0, .null, .int 0, .int 0])), (q1, .inl (cA2, 1200, .inl (fun _ => 0))), (q3, .inl (cA4, 1200, .inl (fun _ => 0))), (q5, .inl (cA6, 120, .inl (fun _ => 0))), (q7, .inl (cA8, 120, .inl (fun _ => 0))), (q9, .inl (cA10, 1080, .inl (fun _ => 0))), (q11, .inl (cA12, 1080, .inl (fun _ => 0))), (q13, .inl (cA14, 120, .inl (fun _ => 0))), (q15, .inl (cA16, 120, .inl (fun _ => 0))), (q17, .inl (cA18, 120, .inl (fun _ => 0))), (q19, .inl (cA20, 120, .inl (fun _ => 0))), (q21, .inl (cA22, 120, .inl (fun _ => 0))), (q23, .inl (cA24, 120, .inl (fun _ => 0))), (q25, .inl (cA26, 24, .inl (fun _ => 0))), (q27, .inl (cA28, 24, .inl (fun _ => 0))), (q29, .inl (cA30, 24, .inl (fun _ => 0))), (q31, .inl (cA32, 2000, .inl (fun _ => 0)))] H := hP
  have hD : va_D A [(a0, .inr (7, [.int 0, .ref q1, .int 0, .int (-1), .int 0, .int 0, .int 0, .ref q3, .int 0, .int 0, .ref q5, .ref q7, .ref q9, .ref q11, .ref q13, .ref q15, .ref q17, .int 0, .ref q19, .ref q21, .ref q23, .int 0, .ref q25, .ref q27, .ref q29, .int 0, .null, .int 0, .int 0])), (q1, .inl (cA2, 1200, .inl (fun _ => 0))), (q3, .inl (cA4, 1200, .inl (fun _ => 0))), (q5, .inl (cA6, 120, .inl (fun _ => 0))), (q7, .inl (cA8, 120, .inl (fun _ => 0))), (q9, .inl (cA10, 1080, .inl (fun _ => 0))), (q11, .inl (cA12, 1080, .inl (fun _ => 0))), (q13, .inl (cA14, 120, .inl (fun _ => 0))), (q15, .inl (cA16, 120, .inl (fun _ => 0))), (q17, .inl (cA18, 120, .inl (fun _ => 0))), (q19, .inl (cA20, 120, .inl (fun _ => 0))), (q21, .inl (cA22, 120, .inl (fun _ => 0))), (q23, .inl (cA24, 120, .inl (fun _ => 0))), (q25, .inl (cA26, 24, .inl (fun _ => 0))), (q27, .inl (cA28, 24, .inl (fun _ => 0))), (q29, .inl (cA30, 24, .inl (fun _ => 0))), (q31, .inl (cA32, 2000, .inl (fun _ => 0)))] := hD
  have hK : va_K (dC, dI) vwCl [(cA2, .int), (cA4, .int), (cA6, .int), (cA8, .int), (cA10, .int), (cA12, .int), (cA14, .boolean), (cA16, .int), (cA18, .int), (cA20, .int), (cA22, .int), (cA24, .int), (cA26, .int), (cA28, .int), (cA30, .int), (cA32, .int)] s := hK
  refine W.widen (k := 16) (n := 7592) (Nat.le_of_ble_eq_true rfl) (Nat.le_of_ble_eq_true rfl) ?_
  refine va_putF (D := (dC, dI)) (ci := 7) (v := .ref q31) (ty := .array .int) (C := RX7) (T := TX7) (N := 29) hx hb hts inAll_7 tyX7 tyX7_ok nmX7 hown hK hP hD hS 0 rfl rfl 26 (by decide) (hts (.fieldLink RX7 60 "LoopEnvelopesModel" "answer" "[I") k_169) (fun _ h9 => h9) rfl hin rfl (by decide +kernel) rfl rfl (Nat.le_of_ble_eq_true rfl) dX7_init_139 (fun H locs hP hD hS => ?_)
  have hP : va_P (dC, dI) vwCl [(a0, .inr (7, [.int 0, .ref q1, .int 0, .int (-1), .int 0, .int 0, .int 0, .ref q3, .int 0, .int 0, .ref q5, .ref q7, .ref q9, .ref q11, .ref q13, .ref q15, .ref q17, .int 0, .ref q19, .ref q21, .ref q23, .int 0, .ref q25, .ref q27, .ref q29, .int 0, .ref q31, .int 0, .int 0])), (q1, .inl (cA2, 1200, .inl (fun _ => 0))), (q3, .inl (cA4, 1200, .inl (fun _ => 0))), (q5, .inl (cA6, 120, .inl (fun _ => 0))), (q7, .inl (cA8, 120, .inl (fun _ => 0))), (q9, .inl (cA10, 1080, .inl (fun _ => 0))), (q11, .inl (cA12, 1080, .inl (fun _ => 0))), (q13, .inl (cA14, 120, .inl (fun _ => 0))), (q15, .inl (cA16, 120, .inl (fun _ => 0))), (q17, .inl (cA18, 120, .inl (fun _ => 0))), (q19, .inl (cA20, 120, .inl (fun _ => 0))), (q21, .inl (cA22, 120, .inl (fun _ => 0))), (q23, .inl (cA24, 120, .inl (fun _ => 0))), (q25, .inl (cA26, 24, .inl (fun _ => 0))), (q27, .inl (cA28, 24, .inl (fun _ => 0))), (q29, .inl (cA30, 24, .inl (fun _ => 0))), (q31, .inl (cA32, 2000, .inl (fun _ => 0)))] H := hP
  have hD : va_D A [(a0, .inr (7, [.int 0, .ref q1, .int 0, .int (-1), .int 0, .int 0, .int 0, .ref q3, .int 0, .int 0, .ref q5, .ref q7, .ref q9, .ref q11, .ref q13, .ref q15, .ref q17, .int 0, .ref q19, .ref q21, .ref q23, .int 0, .ref q25, .ref q27, .ref q29, .int 0, .ref q31, .int 0, .int 0])), (q1, .inl (cA2, 1200, .inl (fun _ => 0))), (q3, .inl (cA4, 1200, .inl (fun _ => 0))), (q5, .inl (cA6, 120, .inl (fun _ => 0))), (q7, .inl (cA8, 120, .inl (fun _ => 0))), (q9, .inl (cA10, 1080, .inl (fun _ => 0))), (q11, .inl (cA12, 1080, .inl (fun _ => 0))), (q13, .inl (cA14, 120, .inl (fun _ => 0))), (q15, .inl (cA16, 120, .inl (fun _ => 0))), (q17, .inl (cA18, 120, .inl (fun _ => 0))), (q19, .inl (cA20, 120, .inl (fun _ => 0))), (q21, .inl (cA22, 120, .inl (fun _ => 0))), (q23, .inl (cA24, 120, .inl (fun _ => 0))), (q25, .inl (cA26, 24, .inl (fun _ => 0))), (q27, .inl (cA28, 24, .inl (fun _ => 0))), (q29, .inl (cA30, 24, .inl (fun _ => 0))), (q31, .inl (cA32, 2000, .inl (fun _ => 0)))] := hD
  have hP9 := hP.sub (ws' := [(a0, .inr (7, [.int 0, .ref q1, .int 0, .int (-1), .int 0, .int 0, .int 0, .ref q3, .int 0, .int 0, .ref q5, .ref q7, .ref q9, .ref q11, .ref q13, .ref q15, .ref q17, .int 0, .ref q19, .ref q21, .ref q23, .int 0, .ref q25, .ref q27, .ref q29, .int 0, .ref q31, .int 0, .int 0])), (q1, .inl (cA2, 1200, .inl (fun _ => 0)))]) [0, 1] rfl
  have hD9 := hD.sub (ws' := [(a0, .inr (7, [.int 0, .ref q1, .int 0, .int (-1), .int 0, .int 0, .int 0, .ref q3, .int 0, .int 0, .ref q5, .ref q7, .ref q9, .ref q11, .ref q13, .ref q15, .ref q17, .int 0, .ref q19, .ref q21, .ref q23, .int 0, .ref q25, .ref q27, .ref q29, .int 0, .ref q31, .int 0, .int 0])), (q1, .inl (cA2, 1200, .inl (fun _ => 0)))]) [0, 1] (by decide) rfl
  have hK9 := hK.sub (tys' := [(cA2, .int)]) [0] rfl
  refine W.widen (k := 16) (n := 7592) (Nat.le_of_ble_eq_true rfl) (Nat.le_of_ble_eq_true rfl) ?_
  exact W.vret hx hb hr (fun t ht hW => ⟨⟨(), rfl, trivial, q1, q3, q5, q7, q9, q11, q13, q15, q17, q19, q21, q23, q25, q27, q29, q31, cA2, (fun _ => 0), by rw [ht]; exact hP9, va_K.moved hW.alike hK9, hD9⟩, hS.F ht⟩) hS.2.2 dX7_init_142
end
section
set_option maxHeartbeats 4000000 in
set_option maxRecDepth 100000 in
theorem c_X7_in (l : Launch) (dC : Nat → ClassId) (dI : Nat → Nat → Nat) (sz : Nat) (v0 : Int32) (lo : Int32) (hi : Int32) : Met l yX7_in pwX7_in ({ frames := 0, cells := 0, slots := 0, locals := 0 } : Room) (va_Pc [.int v0, .int lo, .int hi] (fun U => U.heap.size = sz ∧ va_P (dC, dI) vwCl [] U.heap ∧ va_K (dC, dI) vwCl [] U ∧ va_D (fun _ => True) [])) (va_Qi (fun (r : Int32) (_ : Unit) => r = pf_in v0 lo hi) (fun (_ : Unit) (t : State) => va_P (dC, dI) vwCl [] t.heap ∧ va_K (dC, dI) vwCl [] t ∧ va_D (va_A [] sz) []) (va_A [] sz)) 0 0 (va_A [] sz) := by
  refine Met.ofW (cc := cX7_in) (maxL := 3) (ret := (some .boolean)) (by decide) rfl ?_
  intro p e s m args below meth c s₁ B hml hv
  obtain ⟨rfl, hsz, hP, hK, hD0⟩ := hv
  have hx := B.exec
  have hb := B.bytes
  have hr := B.returns
  have hts0 := atoms_spec (ws := pwX7_in) B.pre
  have hts := fun w (h : w ∈ pwAll) => hts0 w (List.mem_cons_of_mem _ h)
  have hown : s.vm.findClass RX7 = some m.cls := findClass_of_methodNamed B.named
  have hlocks := B.notSynchronized
  subst hsz
  have hD := hD0.self (sz := s.heap.size)
  generalize hAe : va_A [] s.heap.size = A at hD ⊢
  have hA : ∀ q : Nat, s.heap.size ≤ q → A q := fun q h => by rw [← hAe]; exact Or.inr h
  have hS : va_S A s.heap s.heap [] := va_S.rf
  have hP : va_P (dC, dI) vwCl [] s.heap := hP
  have hl := lv_entry ([.int v0, .int lo, .int hi]) (n := 3) (Nat.le_of_ble_eq_true rfl)
  rw [lg_entry_eq]
  generalize (lg_sl ([.int v0, .int lo, .int hi]) ++ List.replicate (3 - (lg_sl ([.int v0, .int lo, .int hi])).length) Slot.unset).toArray = ls at hl ⊢
  have hl : lv_has ls 3 [(0, .int v0), (1, .int lo), (2, .int hi)] := hl
  refine lv_iload_n hx hb dX7_in_0 rfl (lv_at hl 0 rfl) ?_
  refine lv_iload_n hx hb dX7_in_1 rfl (lv_at hl 1 rfl) ?_
  refine lv_icmp_lt (tgt := 14) hx hb dX7_in_2 (by decide) (fun c_2 => ?_) (fun c_2 => ?_)
  · skip
    refine lv_iconst (v := 0) hx hb dX7_in_14 (by decide) ?_
    have hP9 := hP.sub (ws' := []) [] rfl
    have hD9 := hD.sub (ws' := []) [] (by decide) rfl
    have hK9 := hK.sub (tys' := []) [] rfl
    exact W.zret (v := 0) hx hb hr rfl (fun t ht hW => ⟨⟨0, (), rfl, by unfold pf_in; rw [if_pos c_2], by rw [ht]; exact hP9, va_K.moved hW.alike hK9, hD9⟩, hS.F ht⟩) hS.2.2 dX7_in_15
  · skip
    refine lv_iload_n hx hb dX7_in_5 rfl (lv_at hl 0 rfl) ?_
    refine lv_iload_n hx hb dX7_in_6 rfl (lv_at hl 2 rfl) ?_
    refine lv_icmp_gt (tgt := 14) hx hb dX7_in_7 (by decide) (fun c_7 => ?_) (fun c_7 => ?_)
    · skip
      refine lv_iconst (v := 0) hx hb dX7_in_14 (by decide) ?_
      have hP9 := hP.sub (ws' := []) [] rfl
      have hD9 := hD.sub (ws' := []) [] (by decide) rfl
      have hK9 := hK.sub (tys' := []) [] rfl
      exact W.zret (v := 0) hx hb hr rfl (fun t ht hW => ⟨⟨0, (), rfl, by unfold pf_in; rw [if_neg c_2, if_pos c_7], by rw [ht]; exact hP9, va_K.moved hW.alike hK9, hD9⟩, hS.F ht⟩) hS.2.2 dX7_in_15
    · skip
      refine lv_iconst (v := 1) hx hb dX7_in_10 (by decide) ?_
      refine lv_goto (tgt := 15) hx hb dX7_in_11 (by decide) ?_
      have hP9 := hP.sub (ws' := []) [] rfl
      have hD9 := hD.sub (ws' := []) [] (by decide) rfl
      have hK9 := hK.sub (tys' := []) [] rfl
      exact W.zret (v := 1) hx hb hr rfl (fun t ht hW => ⟨⟨1, (), rfl, by unfold pf_in; rw [if_neg c_2, if_neg c_7], by rw [ht]; exact hP9, va_K.moved hW.alike hK9, hD9⟩, hS.F ht⟩) hS.2.2 dX7_in_15

set_option maxHeartbeats 4000000 in
set_option maxRecDepth 100000 in
theorem c_X7_group (l : Launch) (dC : Nat → ClassId) (dI : Nat → Nat → Nat) (sz : Nat) (a0 : Nat) (m1 : Nat) (m2 : Nat) (m3 : Nat) (m4 : Nat) (m5 : Nat) (m6 : Nat) (m7 : Nat) (m8 : Nat) (m9 : Nat) (m10 : Nat) (m11 : Nat) (m12 : Nat) (m13 : Nat) (m14 : Nat) (m15 : Nat) (m16 : Nat) (k0 : Int32) (k1 : Int32) : Met l yX7_group pwX7_group ({ frames := 0, cells := 0, slots := 0, locals := 0 } : Room) (va_Pc [.ref a0, .int k0, .int k1] (fun U => U.heap.size = sz ∧ va_P (dC, dI) vwCl [(a0, .inr (7, [.int 0, .ref m1, .int 0, .int (-1), .int 0, .int 0, .int 0, .ref m2, .int 0, .int 0, .ref m3, .ref m4, .ref m5, .ref m6, .ref m7, .ref m8, .ref m9, .int 0, .ref m10, .ref m11, .ref m12, .int 0, .ref m13, .ref m14, .ref m15, .int 0, .ref m16, .int 0, .int 0]))] U.heap ∧ va_K (dC, dI) vwCl [] U ∧ va_D (fun _ => True) [(a0, .inr (7, [.int 0, .ref m1, .int 0, .int (-1), .int 0, .int 0, .int 0, .ref m2, .int 0, .int 0, .ref m3, .ref m4, .ref m5, .ref m6, .ref m7, .ref m8, .ref m9, .int 0, .ref m10, .ref m11, .ref m12, .int 0, .ref m13, .ref m14, .ref m15, .int 0, .ref m16, .int 0, .int 0]))])) (va_Qi (fun (r : Int32) (_ : Unit) => r = (-4)) (fun (_ : Unit) (t : State) => va_P (dC, dI) vwCl [] t.heap ∧ va_K (dC, dI) vwCl [] t ∧ va_D (va_A [(a0, .inr (7, [.int 0, .ref m1, .int 0, .int (-1), .int 0, .int 0, .int 0, .ref m2, .int 0, .int 0, .ref m3, .ref m4, .ref m5, .ref m6, .ref m7, .ref m8, .ref m9, .int 0, .ref m10, .ref m11, .ref m12, .int 0, .ref m13, .ref m14, .ref m15, .int 0, .ref m16, .int 0, .int 0]))] sz) []) (va_A [(a0, .inr (7, [.int 0, .ref m1, .int 0, .int (-1), .int 0, .int 0, .int 0, .ref m2, .int 0, .int 0, .ref m3, .ref m4, .ref m5, .ref m6, .ref m7, .ref m8, .ref m9, .int 0, .ref m10, .ref m11, .ref m12, .int 0, .ref m13, .ref m14, .ref m15, .int 0, .ref m16, .int 0, .int 0]))] sz)) 0 0 (va_A [(a0, .inr (7, [.int 0, .ref m1, .int 0, .int (-1), .int 0, .int 0, .int 0, .ref m2, .int 0, .int 0, .ref m3, .ref m4, .ref m5, .ref m6, .ref m7, .ref m8, .ref m9, .int 0, .ref m10, .ref m11, .ref m12, .int 0, .ref m13, .ref m14, .ref m15, .int 0, .ref m16, .int 0, .int 0]))] sz) := by
  refine Met.ofW (cc := cX7_group) (maxL := 4) (ret := (some .int)) (by decide) rfl ?_
  intro p e s m args below meth c s₁ B hml hv
  obtain ⟨rfl, hsz, hP, hK, hD0⟩ := hv
  have hx := B.exec
  have hb := B.bytes
  have hr := B.returns
  have hts0 := atoms_spec (ws := pwX7_group) B.pre
  have hts := fun w (h : w ∈ pwAll) => hts0 w (List.mem_cons_of_mem _ h)
  have hown : s.vm.findClass RX7 = some m.cls := findClass_of_methodNamed B.named
  have hlocks := B.notSynchronized
  subst hsz
  have hD := hD0.self (sz := s.heap.size)
  generalize hAe : va_A [(a0, .inr (7, [.int 0, .ref m1, .int 0, .int (-1), .int 0, .int 0, .int 0, .ref m2, .int 0, .int 0, .ref m3, .ref m4, .ref m5, .ref m6, .ref m7, .ref m8, .ref m9, .int 0, .ref m10, .ref m11, .ref m12, .int 0, .ref m13, .ref m14, .ref m15, .int 0, .ref m16, .int 0, .int 0]))] s.heap.size = A at hD ⊢
  have hA : ∀ q : Nat, s.heap.size ≤ q → A q := fun q h => by rw [← hAe]; exact Or.inr h
  have hS : va_S A s.heap s.heap [] := va_S.rf
  have hP : va_P (dC, dI) vwCl [(a0, .inr (7, [.int 0, .ref m1, .int 0, .int (-1), .int 0, .int 0, .int 0, .ref m2, .int 0, .int 0, .ref m3, .ref m4, .ref m5, .ref m6, .ref m7, .ref m8, .ref m9, .int 0, .ref m10, .ref m11, .ref m12, .int 0, .ref m13, .ref m14, .ref m15, .int 0, .ref m16, .int 0, .int 0]))] s.heap := hP
  have hl := lv_entry ([.ref a0, .int k0, .int k1]) (n := 4) (Nat.le_of_ble_eq_true rfl)
  rw [lg_entry_eq]
  generalize (lg_sl ([.ref a0, .int k0, .int k1]) ++ List.replicate (4 - (lg_sl ([.ref a0, .int k0, .int k1])).length) Slot.unset).toArray = ls at hl ⊢
  have hl : lv_has ls 4 [(0, .ref a0), (1, .int k0), (2, .int k1)] := hl
  refine lv_aload_n hx hb dX7_group_0 rfl (lv_at hl 0 rfl) ?_
  refine va_get (D := (dC, dI)) (ci := 7) (v := .int 0) (C := RX7) (T := TX7) (N := 29) hx hb hts inAll_7 hown hK hP 0 rfl rfl 2 (by decide) (hts (.fieldLink RX7 119 "LoopEnvelopesModel" "isTaken" "Z") k_170) (fun _ h9 => h9) rfl dX7_group_1 ?_
  refine lv_if_ne (tgt := 10) hx hb dX7_group_4 (by decide) (fun c_4 => absurd (rfl) c_4) (fun c_4 => ?_)
  refine lv_bipush (v := (-4)) hx hb dX7_group_7 (by decide) ?_
  have hP9 := hP.sub (ws' := []) [] rfl
  have hD9 := hD.sub (ws' := []) [] (by decide) rfl
  have hK9 := hK.sub (tys' := []) [] rfl
  exact W.iret (v := (-4)) hx hb hr (fun t ht hW => ⟨⟨(-4), (), rfl, rfl, by rw [ht]; exact hP9, va_K.moved hW.alike hK9, hD9⟩, hS.F ht⟩) hS.2.2 dX7_group_9

set_option maxHeartbeats 4000000 in
set_option maxRecDepth 100000 in
theorem c_X7_setOf (l : Launch) (dC : Nat → ClassId) (dI : Nat → Nat → Nat) (sz : Nat) (a0 : Nat) (m1 : Nat) (m2 : Nat) (m3 : Nat) (m4 : Nat) (m5 : Nat) (m6 : Nat) (m7 : Nat) (m8 : Nat) (m9 : Nat) (m10 : Nat) (m11 : Nat) (m12 : Nat) (m13 : Nat) (m14 : Nat) (m15 : Nat) (m16 : Nat) (k0 : Int32) (k1 : Int32) : Met l yX7_setOf pwX7_setOf ({ frames := 0, cells := 0, slots := 0, locals := 0 } : Room) (va_Pc [.ref a0, .int k0, .int k1] (fun U => U.heap.size = sz ∧ va_P (dC, dI) vwCl [(a0, .inr (7, [.int 0, .ref m1, .int 0, .int (-1), .int 0, .int 0, .int 0, .ref m2, .int 0, .int 0, .ref m3, .ref m4, .ref m5, .ref m6, .ref m7, .ref m8, .ref m9, .int 0, .ref m10, .ref m11, .ref m12, .int 0, .ref m13, .ref m14, .ref m15, .int 0, .ref m16, .int 0, .int 0]))] U.heap ∧ va_K (dC, dI) vwCl [] U ∧ va_D (fun _ => True) [(a0, .inr (7, [.int 0, .ref m1, .int 0, .int (-1), .int 0, .int 0, .int 0, .ref m2, .int 0, .int 0, .ref m3, .ref m4, .ref m5, .ref m6, .ref m7, .ref m8, .ref m9, .int 0, .ref m10, .ref m11, .ref m12, .int 0, .ref m13, .ref m14, .ref m15, .int 0, .ref m16, .int 0, .int 0]))])) (va_Qi (fun (r : Int32) (_ : Unit) => r = (-4)) (fun (_ : Unit) (t : State) => va_P (dC, dI) vwCl [] t.heap ∧ va_K (dC, dI) vwCl [] t ∧ va_D (va_A [(a0, .inr (7, [.int 0, .ref m1, .int 0, .int (-1), .int 0, .int 0, .int 0, .ref m2, .int 0, .int 0, .ref m3, .ref m4, .ref m5, .ref m6, .ref m7, .ref m8, .ref m9, .int 0, .ref m10, .ref m11, .ref m12, .int 0, .ref m13, .ref m14, .ref m15, .int 0, .ref m16, .int 0, .int 0]))] sz) []) (va_A [(a0, .inr (7, [.int 0, .ref m1, .int 0, .int (-1), .int 0, .int 0, .int 0, .ref m2, .int 0, .int 0, .ref m3, .ref m4, .ref m5, .ref m6, .ref m7, .ref m8, .ref m9, .int 0, .ref m10, .ref m11, .ref m12, .int 0, .ref m13, .ref m14, .ref m15, .int 0, .ref m16, .int 0, .int 0]))] sz)) 0 0 (va_A [(a0, .inr (7, [.int 0, .ref m1, .int 0, .int (-1), .int 0, .int 0, .int 0, .ref m2, .int 0, .int 0, .ref m3, .ref m4, .ref m5, .ref m6, .ref m7, .ref m8, .ref m9, .int 0, .ref m10, .ref m11, .ref m12, .int 0, .ref m13, .ref m14, .ref m15, .int 0, .ref m16, .int 0, .int 0]))] sz) := by
  refine Met.ofW (cc := cX7_setOf) (maxL := 7) (ret := (some .int)) (by decide) rfl ?_
  intro p e s m args below meth c s₁ B hml hv
  obtain ⟨rfl, hsz, hP, hK, hD0⟩ := hv
  have hx := B.exec
  have hb := B.bytes
  have hr := B.returns
  have hts0 := atoms_spec (ws := pwX7_setOf) B.pre
  have hts := fun w (h : w ∈ pwAll) => hts0 w (List.mem_cons_of_mem _ h)
  have hown : s.vm.findClass RX7 = some m.cls := findClass_of_methodNamed B.named
  have hlocks := B.notSynchronized
  subst hsz
  have hD := hD0.self (sz := s.heap.size)
  generalize hAe : va_A [(a0, .inr (7, [.int 0, .ref m1, .int 0, .int (-1), .int 0, .int 0, .int 0, .ref m2, .int 0, .int 0, .ref m3, .ref m4, .ref m5, .ref m6, .ref m7, .ref m8, .ref m9, .int 0, .ref m10, .ref m11, .ref m12, .int 0, .ref m13, .ref m14, .ref m15, .int 0, .ref m16, .int 0, .int 0]))] s.heap.size = A at hD ⊢
  have hA : ∀ q : Nat, s.heap.size ≤ q → A q := fun q h => by rw [← hAe]; exact Or.inr h
  have hS : va_S A s.heap s.heap [] := va_S.rf
  have hP : va_P (dC, dI) vwCl [(a0, .inr (7, [.int 0, .ref m1, .int 0, .int (-1), .int 0, .int 0, .int 0, .ref m2, .int 0, .int 0, .ref m3, .ref m4, .ref m5, .ref m6, .ref m7, .ref m8, .ref m9, .int 0, .ref m10, .ref m11, .ref m12, .int 0, .ref m13, .ref m14, .ref m15, .int 0, .ref m16, .int 0, .int 0]))] s.heap := hP
  have hl := lv_entry ([.ref a0, .int k0, .int k1]) (n := 7) (Nat.le_of_ble_eq_true rfl)
  rw [lg_entry_eq]
  generalize (lg_sl ([.ref a0, .int k0, .int k1]) ++ List.replicate (7 - (lg_sl ([.ref a0, .int k0, .int k1])).length) Slot.unset).toArray = ls at hl ⊢
  have hl : lv_has ls 7 [(0, .ref a0), (1, .int k0), (2, .int k1)] := hl
  refine lv_aload_n hx hb dX7_setOf_0 rfl (lv_at hl 0 rfl) ?_
  refine va_get (D := (dC, dI)) (ci := 7) (v := .int 0) (C := RX7) (T := TX7) (N := 29) hx hb hts inAll_7 hown hK hP 0 rfl rfl 2 (by decide) (hts (.fieldLink RX7 119 "LoopEnvelopesModel" "isTaken" "Z") k_170) (fun _ h9 => h9) rfl dX7_setOf_1 ?_
  refine lv_if_ne (tgt := 10) hx hb dX7_setOf_4 (by decide) (fun c_4 => absurd (rfl) c_4) (fun c_4 => ?_)
  refine lv_bipush (v := (-4)) hx hb dX7_setOf_7 (by decide) ?_
  have hP9 := hP.sub (ws' := []) [] rfl
  have hD9 := hD.sub (ws' := []) [] (by decide) rfl
  have hK9 := hK.sub (tys' := []) [] rfl
  exact W.iret (v := (-4)) hx hb hr (fun t ht hW => ⟨⟨(-4), (), rfl, rfl, by rw [ht]; exact hP9, va_K.moved hW.alike hK9, hD9⟩, hS.F ht⟩) hS.2.2 dX7_setOf_9

set_option maxHeartbeats 4000000 in
set_option maxRecDepth 100000 in
theorem c_X7_fault (l : Launch) (dC : Nat → ClassId) (dI : Nat → Nat → Nat) (sz : Nat) (a0 : Nat) (m1 : Nat) (m2 : Nat) (m3 : Nat) (m4 : Nat) (m5 : Nat) (m6 : Nat) (m7 : Nat) (m8 : Nat) (m9 : Nat) (m10 : Nat) (m11 : Nat) (m12 : Nat) (m13 : Nat) (m14 : Nat) (m15 : Nat) (m16 : Nat) (k0 : Int32) (k1 : Int32) (k2 : Int32) : Met l yX7_fault pwX7_fault ({ frames := 0, cells := 0, slots := 0, locals := 0 } : Room) (va_Pc [.ref a0, .int k0, .int k1, .int k2] (fun U => U.heap.size = sz ∧ va_P (dC, dI) vwCl [(a0, .inr (7, [.int 0, .ref m1, .int 0, .int (-1), .int 0, .int 0, .int 0, .ref m2, .int 0, .int 0, .ref m3, .ref m4, .ref m5, .ref m6, .ref m7, .ref m8, .ref m9, .int 0, .ref m10, .ref m11, .ref m12, .int 0, .ref m13, .ref m14, .ref m15, .int 0, .ref m16, .int 0, .int 0]))] U.heap ∧ va_K (dC, dI) vwCl [] U ∧ va_D (fun _ => True) [(a0, .inr (7, [.int 0, .ref m1, .int 0, .int (-1), .int 0, .int 0, .int 0, .ref m2, .int 0, .int 0, .ref m3, .ref m4, .ref m5, .ref m6, .ref m7, .ref m8, .ref m9, .int 0, .ref m10, .ref m11, .ref m12, .int 0, .ref m13, .ref m14, .ref m15, .int 0, .ref m16, .int 0, .int 0]))])) (va_Qi (fun (r : Int32) (_ : Unit) => r = (-4)) (fun (_ : Unit) (t : State) => va_P (dC, dI) vwCl [] t.heap ∧ va_K (dC, dI) vwCl [] t ∧ va_D (va_A [(a0, .inr (7, [.int 0, .ref m1, .int 0, .int (-1), .int 0, .int 0, .int 0, .ref m2, .int 0, .int 0, .ref m3, .ref m4, .ref m5, .ref m6, .ref m7, .ref m8, .ref m9, .int 0, .ref m10, .ref m11, .ref m12, .int 0, .ref m13, .ref m14, .ref m15, .int 0, .ref m16, .int 0, .int 0]))] sz) []) (va_A [(a0, .inr (7, [.int 0, .ref m1, .int 0, .int (-1), .int 0, .int 0, .int 0, .ref m2, .int 0, .int 0, .ref m3, .ref m4, .ref m5, .ref m6, .ref m7, .ref m8, .ref m9, .int 0, .ref m10, .ref m11, .ref m12, .int 0, .ref m13, .ref m14, .ref m15, .int 0, .ref m16, .int 0, .int 0]))] sz)) 0 0 (va_A [(a0, .inr (7, [.int 0, .ref m1, .int 0, .int (-1), .int 0, .int 0, .int 0, .ref m2, .int 0, .int 0, .ref m3, .ref m4, .ref m5, .ref m6, .ref m7, .ref m8, .ref m9, .int 0, .ref m10, .ref m11, .ref m12, .int 0, .ref m13, .ref m14, .ref m15, .int 0, .ref m16, .int 0, .int 0]))] sz) := by
  refine Met.ofW (cc := cX7_fault) (maxL := 5) (ret := (some .int)) (by decide) rfl ?_
  intro p e s m args below meth c s₁ B hml hv
  obtain ⟨rfl, hsz, hP, hK, hD0⟩ := hv
  have hx := B.exec
  have hb := B.bytes
  have hr := B.returns
  have hts0 := atoms_spec (ws := pwX7_fault) B.pre
  have hts := fun w (h : w ∈ pwAll) => hts0 w (List.mem_cons_of_mem _ h)
  have hown : s.vm.findClass RX7 = some m.cls := findClass_of_methodNamed B.named
  have hlocks := B.notSynchronized
  subst hsz
  have hD := hD0.self (sz := s.heap.size)
  generalize hAe : va_A [(a0, .inr (7, [.int 0, .ref m1, .int 0, .int (-1), .int 0, .int 0, .int 0, .ref m2, .int 0, .int 0, .ref m3, .ref m4, .ref m5, .ref m6, .ref m7, .ref m8, .ref m9, .int 0, .ref m10, .ref m11, .ref m12, .int 0, .ref m13, .ref m14, .ref m15, .int 0, .ref m16, .int 0, .int 0]))] s.heap.size = A at hD ⊢
  have hA : ∀ q : Nat, s.heap.size ≤ q → A q := fun q h => by rw [← hAe]; exact Or.inr h
  have hS : va_S A s.heap s.heap [] := va_S.rf
  have hP : va_P (dC, dI) vwCl [(a0, .inr (7, [.int 0, .ref m1, .int 0, .int (-1), .int 0, .int 0, .int 0, .ref m2, .int 0, .int 0, .ref m3, .ref m4, .ref m5, .ref m6, .ref m7, .ref m8, .ref m9, .int 0, .ref m10, .ref m11, .ref m12, .int 0, .ref m13, .ref m14, .ref m15, .int 0, .ref m16, .int 0, .int 0]))] s.heap := hP
  have hl := lv_entry ([.ref a0, .int k0, .int k1, .int k2]) (n := 5) (Nat.le_of_ble_eq_true rfl)
  rw [lg_entry_eq]
  generalize (lg_sl ([.ref a0, .int k0, .int k1, .int k2]) ++ List.replicate (5 - (lg_sl ([.ref a0, .int k0, .int k1, .int k2])).length) Slot.unset).toArray = ls at hl ⊢
  have hl : lv_has ls 5 [(0, .ref a0), (1, .int k0), (2, .int k1), (3, .int k2)] := hl
  refine lv_aload_n hx hb dX7_fault_0 rfl (lv_at hl 0 rfl) ?_
  refine va_get (D := (dC, dI)) (ci := 7) (v := .int 0) (C := RX7) (T := TX7) (N := 29) hx hb hts inAll_7 hown hK hP 0 rfl rfl 2 (by decide) (hts (.fieldLink RX7 119 "LoopEnvelopesModel" "isTaken" "Z") k_170) (fun _ h9 => h9) rfl dX7_fault_1 ?_
  refine lv_if_ne (tgt := 10) hx hb dX7_fault_4 (by decide) (fun c_4 => absurd (rfl) c_4) (fun c_4 => ?_)
  refine lv_bipush (v := (-4)) hx hb dX7_fault_7 (by decide) ?_
  have hP9 := hP.sub (ws' := []) [] rfl
  have hD9 := hD.sub (ws' := []) [] (by decide) rfl
  have hK9 := hK.sub (tys' := []) [] rfl
  exact W.iret (v := (-4)) hx hb hr (fun t ht hW => ⟨⟨(-4), (), rfl, rfl, by rw [ht]; exact hP9, va_K.moved hW.alike hK9, hD9⟩, hS.F ht⟩) hS.2.2 dX7_fault_9

set_option maxHeartbeats 4000000 in
set_option maxRecDepth 100000 in
theorem c_X7_level (l : Launch) (dC : Nat → ClassId) (dI : Nat → Nat → Nat) (sz : Nat) (a0 : Nat) (m1 : Nat) (m2 : Nat) (m3 : Nat) (m4 : Nat) (m5 : Nat) (m6 : Nat) (m7 : Nat) (m8 : Nat) (m9 : Nat) (m10 : Nat) (m11 : Nat) (m12 : Nat) (m13 : Nat) (m14 : Nat) (m15 : Nat) (m16 : Nat) (k0 : Int32) (k1 : Int32) (k2 : Int32) : Met l yX7_level pwX7_level ({ frames := 0, cells := 0, slots := 0, locals := 0 } : Room) (va_Pc [.ref a0, .int k0, .int k1, .int k2] (fun U => U.heap.size = sz ∧ va_P (dC, dI) vwCl [(a0, .inr (7, [.int 0, .ref m1, .int 0, .int (-1), .int 0, .int 0, .int 0, .ref m2, .int 0, .int 0, .ref m3, .ref m4, .ref m5, .ref m6, .ref m7, .ref m8, .ref m9, .int 0, .ref m10, .ref m11, .ref m12, .int 0, .ref m13, .ref m14, .ref m15, .int 0, .ref m16, .int 0, .int 0]))] U.heap ∧ va_K (dC, dI) vwCl [] U ∧ va_D (fun _ => True) [(a0, .inr (7, [.int 0, .ref m1, .int 0, .int (-1), .int 0, .int 0, .int 0, .ref m2, .int 0, .int 0, .ref m3, .ref m4, .ref m5, .ref m6, .ref m7, .ref m8, .ref m9, .int 0, .ref m10, .ref m11, .ref m12, .int 0, .ref m13, .ref m14, .ref m15, .int 0, .ref m16, .int 0, .int 0]))])) (va_Qi (fun (r : Int32) (_ : Unit) => r = (-4)) (fun (_ : Unit) (t : State) => va_P (dC, dI) vwCl [] t.heap ∧ va_K (dC, dI) vwCl [] t ∧ va_D (va_A [(a0, .inr (7, [.int 0, .ref m1, .int 0, .int (-1), .int 0, .int 0, .int 0, .ref m2, .int 0, .int 0, .ref m3, .ref m4, .ref m5, .ref m6, .ref m7, .ref m8, .ref m9, .int 0, .ref m10, .ref m11, .ref m12, .int 0, .ref m13, .ref m14, .ref m15, .int 0, .ref m16, .int 0, .int 0]))] sz) []) (va_A [(a0, .inr (7, [.int 0, .ref m1, .int 0, .int (-1), .int 0, .int 0, .int 0, .ref m2, .int 0, .int 0, .ref m3, .ref m4, .ref m5, .ref m6, .ref m7, .ref m8, .ref m9, .int 0, .ref m10, .ref m11, .ref m12, .int 0, .ref m13, .ref m14, .ref m15, .int 0, .ref m16, .int 0, .int 0]))] sz)) 0 0 (va_A [(a0, .inr (7, [.int 0, .ref m1, .int 0, .int (-1), .int 0, .int 0, .int 0, .ref m2, .int 0, .int 0, .ref m3, .ref m4, .ref m5, .ref m6, .ref m7, .ref m8, .ref m9, .int 0, .ref m10, .ref m11, .ref m12, .int 0, .ref m13, .ref m14, .ref m15, .int 0, .ref m16, .int 0, .int 0]))] sz) := by
  refine Met.ofW (cc := cX7_level) (maxL := 5) (ret := (some .int)) (by decide) rfl ?_
  intro p e s m args below meth c s₁ B hml hv
  obtain ⟨rfl, hsz, hP, hK, hD0⟩ := hv
  have hx := B.exec
  have hb := B.bytes
  have hr := B.returns
  have hts0 := atoms_spec (ws := pwX7_level) B.pre
  have hts := fun w (h : w ∈ pwAll) => hts0 w (List.mem_cons_of_mem _ h)
  have hown : s.vm.findClass RX7 = some m.cls := findClass_of_methodNamed B.named
  have hlocks := B.notSynchronized
  subst hsz
  have hD := hD0.self (sz := s.heap.size)
  generalize hAe : va_A [(a0, .inr (7, [.int 0, .ref m1, .int 0, .int (-1), .int 0, .int 0, .int 0, .ref m2, .int 0, .int 0, .ref m3, .ref m4, .ref m5, .ref m6, .ref m7, .ref m8, .ref m9, .int 0, .ref m10, .ref m11, .ref m12, .int 0, .ref m13, .ref m14, .ref m15, .int 0, .ref m16, .int 0, .int 0]))] s.heap.size = A at hD ⊢
  have hA : ∀ q : Nat, s.heap.size ≤ q → A q := fun q h => by rw [← hAe]; exact Or.inr h
  have hS : va_S A s.heap s.heap [] := va_S.rf
  have hP : va_P (dC, dI) vwCl [(a0, .inr (7, [.int 0, .ref m1, .int 0, .int (-1), .int 0, .int 0, .int 0, .ref m2, .int 0, .int 0, .ref m3, .ref m4, .ref m5, .ref m6, .ref m7, .ref m8, .ref m9, .int 0, .ref m10, .ref m11, .ref m12, .int 0, .ref m13, .ref m14, .ref m15, .int 0, .ref m16, .int 0, .int 0]))] s.heap := hP
  have hl := lv_entry ([.ref a0, .int k0, .int k1, .int k2]) (n := 5) (Nat.le_of_ble_eq_true rfl)
  rw [lg_entry_eq]
  generalize (lg_sl ([.ref a0, .int k0, .int k1, .int k2]) ++ List.replicate (5 - (lg_sl ([.ref a0, .int k0, .int k1, .int k2])).length) Slot.unset).toArray = ls at hl ⊢
  have hl : lv_has ls 5 [(0, .ref a0), (1, .int k0), (2, .int k1), (3, .int k2)] := hl
  refine lv_aload_n hx hb dX7_level_0 rfl (lv_at hl 0 rfl) ?_
  refine va_get (D := (dC, dI)) (ci := 7) (v := .int 0) (C := RX7) (T := TX7) (N := 29) hx hb hts inAll_7 hown hK hP 0 rfl rfl 2 (by decide) (hts (.fieldLink RX7 119 "LoopEnvelopesModel" "isTaken" "Z") k_170) (fun _ h9 => h9) rfl dX7_level_1 ?_
  refine lv_if_ne (tgt := 10) hx hb dX7_level_4 (by decide) (fun c_4 => absurd (rfl) c_4) (fun c_4 => ?_)
  refine lv_bipush (v := (-4)) hx hb dX7_level_7 (by decide) ?_
  have hP9 := hP.sub (ws' := []) [] rfl
  have hD9 := hD.sub (ws' := []) [] (by decide) rfl
  have hK9 := hK.sub (tys' := []) [] rfl
  exact W.iret (v := (-4)) hx hb hr (fun t ht hW => ⟨⟨(-4), (), rfl, rfl, by rw [ht]; exact hP9, va_K.moved hW.alike hK9, hD9⟩, hS.F ht⟩) hS.2.2 dX7_level_9

set_option maxHeartbeats 4000000 in
set_option maxRecDepth 100000 in
theorem c_X7_claim (l : Launch) (dC : Nat → ClassId) (dI : Nat → Nat → Nat) (sz : Nat) (a0 : Nat) (m1 : Nat) (m2 : Nat) (m3 : Nat) (m4 : Nat) (m5 : Nat) (m6 : Nat) (m7 : Nat) (m8 : Nat) (m9 : Nat) (m10 : Nat) (m11 : Nat) (m12 : Nat) (m13 : Nat) (m14 : Nat) (m15 : Nat) (m16 : Nat) (k0 : Int32) (k1 : Int32) (k2 : Int32) : Met l yX7_claim pwX7_claim ({ frames := 0, cells := 0, slots := 0, locals := 0 } : Room) (va_Pc [.ref a0, .int k0, .int k1, .int k2] (fun U => U.heap.size = sz ∧ va_P (dC, dI) vwCl [(a0, .inr (7, [.int 0, .ref m1, .int 0, .int (-1), .int 0, .int 0, .int 0, .ref m2, .int 0, .int 0, .ref m3, .ref m4, .ref m5, .ref m6, .ref m7, .ref m8, .ref m9, .int 0, .ref m10, .ref m11, .ref m12, .int 0, .ref m13, .ref m14, .ref m15, .int 0, .ref m16, .int 0, .int 0]))] U.heap ∧ va_K (dC, dI) vwCl [] U ∧ va_D (fun _ => True) [(a0, .inr (7, [.int 0, .ref m1, .int 0, .int (-1), .int 0, .int 0, .int 0, .ref m2, .int 0, .int 0, .ref m3, .ref m4, .ref m5, .ref m6, .ref m7, .ref m8, .ref m9, .int 0, .ref m10, .ref m11, .ref m12, .int 0, .ref m13, .ref m14, .ref m15, .int 0, .ref m16, .int 0, .int 0]))])) (va_Qi (fun (r : Int32) (_ : Unit) => r = (-4)) (fun (_ : Unit) (t : State) => va_P (dC, dI) vwCl [] t.heap ∧ va_K (dC, dI) vwCl [] t ∧ va_D (va_A [(a0, .inr (7, [.int 0, .ref m1, .int 0, .int (-1), .int 0, .int 0, .int 0, .ref m2, .int 0, .int 0, .ref m3, .ref m4, .ref m5, .ref m6, .ref m7, .ref m8, .ref m9, .int 0, .ref m10, .ref m11, .ref m12, .int 0, .ref m13, .ref m14, .ref m15, .int 0, .ref m16, .int 0, .int 0]))] sz) []) (va_A [(a0, .inr (7, [.int 0, .ref m1, .int 0, .int (-1), .int 0, .int 0, .int 0, .ref m2, .int 0, .int 0, .ref m3, .ref m4, .ref m5, .ref m6, .ref m7, .ref m8, .ref m9, .int 0, .ref m10, .ref m11, .ref m12, .int 0, .ref m13, .ref m14, .ref m15, .int 0, .ref m16, .int 0, .int 0]))] sz)) 0 0 (va_A [(a0, .inr (7, [.int 0, .ref m1, .int 0, .int (-1), .int 0, .int 0, .int 0, .ref m2, .int 0, .int 0, .ref m3, .ref m4, .ref m5, .ref m6, .ref m7, .ref m8, .ref m9, .int 0, .ref m10, .ref m11, .ref m12, .int 0, .ref m13, .ref m14, .ref m15, .int 0, .ref m16, .int 0, .int 0]))] sz) := by
  refine Met.ofW (cc := cX7_claim) (maxL := 7) (ret := (some .int)) (by decide) rfl ?_
  intro p e s m args below meth c s₁ B hml hv
  obtain ⟨rfl, hsz, hP, hK, hD0⟩ := hv
  have hx := B.exec
  have hb := B.bytes
  have hr := B.returns
  have hts0 := atoms_spec (ws := pwX7_claim) B.pre
  have hts := fun w (h : w ∈ pwAll) => hts0 w (List.mem_cons_of_mem _ h)
  have hown : s.vm.findClass RX7 = some m.cls := findClass_of_methodNamed B.named
  have hlocks := B.notSynchronized
  subst hsz
  have hD := hD0.self (sz := s.heap.size)
  generalize hAe : va_A [(a0, .inr (7, [.int 0, .ref m1, .int 0, .int (-1), .int 0, .int 0, .int 0, .ref m2, .int 0, .int 0, .ref m3, .ref m4, .ref m5, .ref m6, .ref m7, .ref m8, .ref m9, .int 0, .ref m10, .ref m11, .ref m12, .int 0, .ref m13, .ref m14, .ref m15, .int 0, .ref m16, .int 0, .int 0]))] s.heap.size = A at hD ⊢
  have hA : ∀ q : Nat, s.heap.size ≤ q → A q := fun q h => by rw [← hAe]; exact Or.inr h
  have hS : va_S A s.heap s.heap [] := va_S.rf
  have hP : va_P (dC, dI) vwCl [(a0, .inr (7, [.int 0, .ref m1, .int 0, .int (-1), .int 0, .int 0, .int 0, .ref m2, .int 0, .int 0, .ref m3, .ref m4, .ref m5, .ref m6, .ref m7, .ref m8, .ref m9, .int 0, .ref m10, .ref m11, .ref m12, .int 0, .ref m13, .ref m14, .ref m15, .int 0, .ref m16, .int 0, .int 0]))] s.heap := hP
  have hl := lv_entry ([.ref a0, .int k0, .int k1, .int k2]) (n := 7) (Nat.le_of_ble_eq_true rfl)
  rw [lg_entry_eq]
  generalize (lg_sl ([.ref a0, .int k0, .int k1, .int k2]) ++ List.replicate (7 - (lg_sl ([.ref a0, .int k0, .int k1, .int k2])).length) Slot.unset).toArray = ls at hl ⊢
  have hl : lv_has ls 7 [(0, .ref a0), (1, .int k0), (2, .int k1), (3, .int k2)] := hl
  refine lv_aload_n hx hb dX7_claim_0 rfl (lv_at hl 0 rfl) ?_
  refine va_get (D := (dC, dI)) (ci := 7) (v := .int 0) (C := RX7) (T := TX7) (N := 29) hx hb hts inAll_7 hown hK hP 0 rfl rfl 2 (by decide) (hts (.fieldLink RX7 119 "LoopEnvelopesModel" "isTaken" "Z") k_170) (fun _ h9 => h9) rfl dX7_claim_1 ?_
  refine lv_if_ne (tgt := 10) hx hb dX7_claim_4 (by decide) (fun c_4 => absurd (rfl) c_4) (fun c_4 => ?_)
  refine lv_bipush (v := (-4)) hx hb dX7_claim_7 (by decide) ?_
  have hP9 := hP.sub (ws' := []) [] rfl
  have hD9 := hD.sub (ws' := []) [] (by decide) rfl
  have hK9 := hK.sub (tys' := []) [] rfl
  exact W.iret (v := (-4)) hx hb hr (fun t ht hW => ⟨⟨(-4), (), rfl, rfl, by rw [ht]; exact hP9, va_K.moved hW.alike hK9, hD9⟩, hS.F ht⟩) hS.2.2 dX7_claim_9

set_option maxHeartbeats 4000000 in
set_option maxRecDepth 100000 in
theorem c_X7_size (l : Launch) (dC : Nat → ClassId) (dI : Nat → Nat → Nat) (sz : Nat) (a0 : Nat) (m1 : Nat) (m2 : Nat) (m3 : Nat) (m4 : Nat) (m5 : Nat) (m6 : Nat) (m7 : Nat) (m8 : Nat) (m9 : Nat) (m10 : Nat) (m11 : Nat) (m12 : Nat) (m13 : Nat) (m14 : Nat) (m15 : Nat) (m16 : Nat) (k0 : Int32) (k1 : Int32) : Met l yX7_size pwX7_size ({ frames := 0, cells := 0, slots := 0, locals := 0 } : Room) (va_Pc [.ref a0, .int k0, .int k1] (fun U => U.heap.size = sz ∧ va_P (dC, dI) vwCl [(a0, .inr (7, [.int 0, .ref m1, .int 0, .int (-1), .int 0, .int 0, .int 0, .ref m2, .int 0, .int 0, .ref m3, .ref m4, .ref m5, .ref m6, .ref m7, .ref m8, .ref m9, .int 0, .ref m10, .ref m11, .ref m12, .int 0, .ref m13, .ref m14, .ref m15, .int 0, .ref m16, .int 0, .int 0]))] U.heap ∧ va_K (dC, dI) vwCl [] U ∧ va_D (fun _ => True) [(a0, .inr (7, [.int 0, .ref m1, .int 0, .int (-1), .int 0, .int 0, .int 0, .ref m2, .int 0, .int 0, .ref m3, .ref m4, .ref m5, .ref m6, .ref m7, .ref m8, .ref m9, .int 0, .ref m10, .ref m11, .ref m12, .int 0, .ref m13, .ref m14, .ref m15, .int 0, .ref m16, .int 0, .int 0]))])) (va_Qi (fun (r : Int32) (_ : Unit) => r = (-4)) (fun (_ : Unit) (t : State) => va_P (dC, dI) vwCl [] t.heap ∧ va_K (dC, dI) vwCl [] t ∧ va_D (va_A [(a0, .inr (7, [.int 0, .ref m1, .int 0, .int (-1), .int 0, .int 0, .int 0, .ref m2, .int 0, .int 0, .ref m3, .ref m4, .ref m5, .ref m6, .ref m7, .ref m8, .ref m9, .int 0, .ref m10, .ref m11, .ref m12, .int 0, .ref m13, .ref m14, .ref m15, .int 0, .ref m16, .int 0, .int 0]))] sz) []) (va_A [(a0, .inr (7, [.int 0, .ref m1, .int 0, .int (-1), .int 0, .int 0, .int 0, .ref m2, .int 0, .int 0, .ref m3, .ref m4, .ref m5, .ref m6, .ref m7, .ref m8, .ref m9, .int 0, .ref m10, .ref m11, .ref m12, .int 0, .ref m13, .ref m14, .ref m15, .int 0, .ref m16, .int 0, .int 0]))] sz)) 0 0 (va_A [(a0, .inr (7, [.int 0, .ref m1, .int 0, .int (-1), .int 0, .int 0, .int 0, .ref m2, .int 0, .int 0, .ref m3, .ref m4, .ref m5, .ref m6, .ref m7, .ref m8, .ref m9, .int 0, .ref m10, .ref m11, .ref m12, .int 0, .ref m13, .ref m14, .ref m15, .int 0, .ref m16, .int 0, .int 0]))] sz) := by
  refine Met.ofW (cc := cX7_size) (maxL := 3) (ret := (some .int)) (by decide) rfl ?_
  intro p e s m args below meth c s₁ B hml hv
  obtain ⟨rfl, hsz, hP, hK, hD0⟩ := hv
  have hx := B.exec
  have hb := B.bytes
  have hr := B.returns
  have hts0 := atoms_spec (ws := pwX7_size) B.pre
  have hts := fun w (h : w ∈ pwAll) => hts0 w (List.mem_cons_of_mem _ h)
  have hown : s.vm.findClass RX7 = some m.cls := findClass_of_methodNamed B.named
  have hlocks := B.notSynchronized
  subst hsz
  have hD := hD0.self (sz := s.heap.size)
  generalize hAe : va_A [(a0, .inr (7, [.int 0, .ref m1, .int 0, .int (-1), .int 0, .int 0, .int 0, .ref m2, .int 0, .int 0, .ref m3, .ref m4, .ref m5, .ref m6, .ref m7, .ref m8, .ref m9, .int 0, .ref m10, .ref m11, .ref m12, .int 0, .ref m13, .ref m14, .ref m15, .int 0, .ref m16, .int 0, .int 0]))] s.heap.size = A at hD ⊢
  have hA : ∀ q : Nat, s.heap.size ≤ q → A q := fun q h => by rw [← hAe]; exact Or.inr h
  have hS : va_S A s.heap s.heap [] := va_S.rf
  have hP : va_P (dC, dI) vwCl [(a0, .inr (7, [.int 0, .ref m1, .int 0, .int (-1), .int 0, .int 0, .int 0, .ref m2, .int 0, .int 0, .ref m3, .ref m4, .ref m5, .ref m6, .ref m7, .ref m8, .ref m9, .int 0, .ref m10, .ref m11, .ref m12, .int 0, .ref m13, .ref m14, .ref m15, .int 0, .ref m16, .int 0, .int 0]))] s.heap := hP
  have hl := lv_entry ([.ref a0, .int k0, .int k1]) (n := 3) (Nat.le_of_ble_eq_true rfl)
  rw [lg_entry_eq]
  generalize (lg_sl ([.ref a0, .int k0, .int k1]) ++ List.replicate (3 - (lg_sl ([.ref a0, .int k0, .int k1])).length) Slot.unset).toArray = ls at hl ⊢
  have hl : lv_has ls 3 [(0, .ref a0), (1, .int k0), (2, .int k1)] := hl
  refine lv_aload_n hx hb dX7_size_0 rfl (lv_at hl 0 rfl) ?_
  refine va_get (D := (dC, dI)) (ci := 7) (v := .int 0) (C := RX7) (T := TX7) (N := 29) hx hb hts inAll_7 hown hK hP 0 rfl rfl 2 (by decide) (hts (.fieldLink RX7 119 "LoopEnvelopesModel" "isTaken" "Z") k_170) (fun _ h9 => h9) rfl dX7_size_1 ?_
  refine lv_if_ne (tgt := 10) hx hb dX7_size_4 (by decide) (fun c_4 => absurd (rfl) c_4) (fun c_4 => ?_)
  refine lv_bipush (v := (-4)) hx hb dX7_size_7 (by decide) ?_
  have hP9 := hP.sub (ws' := []) [] rfl
  have hD9 := hD.sub (ws' := []) [] (by decide) rfl
  have hK9 := hK.sub (tys' := []) [] rfl
  exact W.iret (v := (-4)) hx hb hr (fun t ht hW => ⟨⟨(-4), (), rfl, rfl, by rw [ht]; exact hP9, va_K.moved hW.alike hK9, hD9⟩, hS.F ht⟩) hS.2.2 dX7_size_9

set_option maxHeartbeats 4000000 in
set_option maxRecDepth 100000 in
theorem c_X7_byteOf (l : Launch) (dC : Nat → ClassId) (dI : Nat → Nat → Nat) (sz : Nat) (a0 : Nat) (m1 : Nat) (m2 : Nat) (m3 : Nat) (m4 : Nat) (m5 : Nat) (m6 : Nat) (m7 : Nat) (m8 : Nat) (m9 : Nat) (m10 : Nat) (m11 : Nat) (m12 : Nat) (m13 : Nat) (m14 : Nat) (m15 : Nat) (m16 : Nat) (k0 : Int32) (k1 : Int32) (k2 : Int32) : Met l yX7_byteOf pwX7_byteOf ({ frames := 0, cells := 0, slots := 0, locals := 0 } : Room) (va_Pc [.ref a0, .int k0, .int k1, .int k2] (fun U => U.heap.size = sz ∧ va_P (dC, dI) vwCl [(a0, .inr (7, [.int 0, .ref m1, .int 0, .int (-1), .int 0, .int 0, .int 0, .ref m2, .int 0, .int 0, .ref m3, .ref m4, .ref m5, .ref m6, .ref m7, .ref m8, .ref m9, .int 0, .ref m10, .ref m11, .ref m12, .int 0, .ref m13, .ref m14, .ref m15, .int 0, .ref m16, .int 0, .int 0]))] U.heap ∧ va_K (dC, dI) vwCl [] U ∧ va_D (fun _ => True) [(a0, .inr (7, [.int 0, .ref m1, .int 0, .int (-1), .int 0, .int 0, .int 0, .ref m2, .int 0, .int 0, .ref m3, .ref m4, .ref m5, .ref m6, .ref m7, .ref m8, .ref m9, .int 0, .ref m10, .ref m11, .ref m12, .int 0, .ref m13, .ref m14, .ref m15, .int 0, .ref m16, .int 0, .int 0]))])) (va_Qi (fun (r : Int32) (_ : Unit) => r = (-4)) (fun (_ : Unit) (t : State) => va_P (dC, dI) vwCl [] t.heap ∧ va_K (dC, dI) vwCl [] t ∧ va_D (va_A [(a0, .inr (7, [.int 0, .ref m1, .int 0, .int (-1), .int 0, .int 0, .int 0, .ref m2, .int 0, .int 0, .ref m3, .ref m4, .ref m5, .ref m6, .ref m7, .ref m8, .ref m9, .int 0, .ref m10, .ref m11, .ref m12, .int 0, .ref m13, .ref m14, .ref m15, .int 0, .ref m16, .int 0, .int 0]))] sz) []) (va_A [(a0, .inr (7, [.int 0, .ref m1, .int 0, .int (-1), .int 0, .int 0, .int 0, .ref m2, .int 0, .int 0, .ref m3, .ref m4, .ref m5, .ref m6, .ref m7, .ref m8, .ref m9, .int 0, .ref m10, .ref m11, .ref m12, .int 0, .ref m13, .ref m14, .ref m15, .int 0, .ref m16, .int 0, .int 0]))] sz)) 0 0 (va_A [(a0, .inr (7, [.int 0, .ref m1, .int 0, .int (-1), .int 0, .int 0, .int 0, .ref m2, .int 0, .int 0, .ref m3, .ref m4, .ref m5, .ref m6, .ref m7, .ref m8, .ref m9, .int 0, .ref m10, .ref m11, .ref m12, .int 0, .ref m13, .ref m14, .ref m15, .int 0, .ref m16, .int 0, .int 0]))] sz) := by
  refine Met.ofW (cc := cX7_byteOf) (maxL := 4) (ret := (some .int)) (by decide) rfl ?_
  intro p e s m args below meth c s₁ B hml hv
  obtain ⟨rfl, hsz, hP, hK, hD0⟩ := hv
  have hx := B.exec
  have hb := B.bytes
  have hr := B.returns
  have hts0 := atoms_spec (ws := pwX7_byteOf) B.pre
  have hts := fun w (h : w ∈ pwAll) => hts0 w (List.mem_cons_of_mem _ h)
  have hown : s.vm.findClass RX7 = some m.cls := findClass_of_methodNamed B.named
  have hlocks := B.notSynchronized
  subst hsz
  have hD := hD0.self (sz := s.heap.size)
  generalize hAe : va_A [(a0, .inr (7, [.int 0, .ref m1, .int 0, .int (-1), .int 0, .int 0, .int 0, .ref m2, .int 0, .int 0, .ref m3, .ref m4, .ref m5, .ref m6, .ref m7, .ref m8, .ref m9, .int 0, .ref m10, .ref m11, .ref m12, .int 0, .ref m13, .ref m14, .ref m15, .int 0, .ref m16, .int 0, .int 0]))] s.heap.size = A at hD ⊢
  have hA : ∀ q : Nat, s.heap.size ≤ q → A q := fun q h => by rw [← hAe]; exact Or.inr h
  have hS : va_S A s.heap s.heap [] := va_S.rf
  have hP : va_P (dC, dI) vwCl [(a0, .inr (7, [.int 0, .ref m1, .int 0, .int (-1), .int 0, .int 0, .int 0, .ref m2, .int 0, .int 0, .ref m3, .ref m4, .ref m5, .ref m6, .ref m7, .ref m8, .ref m9, .int 0, .ref m10, .ref m11, .ref m12, .int 0, .ref m13, .ref m14, .ref m15, .int 0, .ref m16, .int 0, .int 0]))] s.heap := hP
  have hl := lv_entry ([.ref a0, .int k0, .int k1, .int k2]) (n := 4) (Nat.le_of_ble_eq_true rfl)
  rw [lg_entry_eq]
  generalize (lg_sl ([.ref a0, .int k0, .int k1, .int k2]) ++ List.replicate (4 - (lg_sl ([.ref a0, .int k0, .int k1, .int k2])).length) Slot.unset).toArray = ls at hl ⊢
  have hl : lv_has ls 4 [(0, .ref a0), (1, .int k0), (2, .int k1), (3, .int k2)] := hl
  refine lv_aload_n hx hb dX7_byteOf_0 rfl (lv_at hl 0 rfl) ?_
  refine va_get (D := (dC, dI)) (ci := 7) (v := .int 0) (C := RX7) (T := TX7) (N := 29) hx hb hts inAll_7 hown hK hP 0 rfl rfl 2 (by decide) (hts (.fieldLink RX7 119 "LoopEnvelopesModel" "isTaken" "Z") k_170) (fun _ h9 => h9) rfl dX7_byteOf_1 ?_
  refine lv_if_ne (tgt := 10) hx hb dX7_byteOf_4 (by decide) (fun c_4 => absurd (rfl) c_4) (fun c_4 => ?_)
  refine lv_bipush (v := (-4)) hx hb dX7_byteOf_7 (by decide) ?_
  have hP9 := hP.sub (ws' := []) [] rfl
  have hD9 := hD.sub (ws' := []) [] (by decide) rfl
  have hK9 := hK.sub (tys' := []) [] rfl
  exact W.iret (v := (-4)) hx hb hr (fun t ht hW => ⟨⟨(-4), (), rfl, rfl, by rw [ht]; exact hP9, va_K.moved hW.alike hK9, hD9⟩, hS.F ht⟩) hS.2.2 dX7_byteOf_9

set_option maxHeartbeats 4000000 in
set_option maxRecDepth 100000 in
theorem c_X7_answer (l : Launch) (dC : Nat → ClassId) (dI : Nat → Nat → Nat) (sz : Nat) (a0 : Nat) (m1 : Nat) (m2 : Nat) (m3 : Nat) (m4 : Nat) (m5 : Nat) (m6 : Nat) (m7 : Nat) (m8 : Nat) (m9 : Nat) (m10 : Nat) (m11 : Nat) (m12 : Nat) (m13 : Nat) (m14 : Nat) (m15 : Nat) (m16 : Nat) : Met l yX7_answer pwX7_answer ({ frames := 0, cells := 0, slots := 0, locals := 0 } : Room) (va_Pc [.ref a0] (fun U => U.heap.size = sz ∧ va_P (dC, dI) vwCl [(a0, .inr (7, [.int 0, .ref m1, .int 0, .int (-1), .int 0, .int 0, .int 0, .ref m2, .int 0, .int 0, .ref m3, .ref m4, .ref m5, .ref m6, .ref m7, .ref m8, .ref m9, .int 0, .ref m10, .ref m11, .ref m12, .int 0, .ref m13, .ref m14, .ref m15, .int 0, .ref m16, .int 0, .int 0]))] U.heap ∧ va_K (dC, dI) vwCl [] U ∧ va_D (fun _ => True) [(a0, .inr (7, [.int 0, .ref m1, .int 0, .int (-1), .int 0, .int 0, .int 0, .ref m2, .int 0, .int 0, .ref m3, .ref m4, .ref m5, .ref m6, .ref m7, .ref m8, .ref m9, .int 0, .ref m10, .ref m11, .ref m12, .int 0, .ref m13, .ref m14, .ref m15, .int 0, .ref m16, .int 0, .int 0]))])) (va_Qi (fun (r : Int32) (_ : Unit) => r = (-4)) (fun (_ : Unit) (t : State) => va_P (dC, dI) vwCl [] t.heap ∧ va_K (dC, dI) vwCl [] t ∧ va_D (va_A [(a0, .inr (7, [.int 0, .ref m1, .int 0, .int (-1), .int 0, .int 0, .int 0, .ref m2, .int 0, .int 0, .ref m3, .ref m4, .ref m5, .ref m6, .ref m7, .ref m8, .ref m9, .int 0, .ref m10, .ref m11, .ref m12, .int 0, .ref m13, .ref m14, .ref m15, .int 0, .ref m16, .int 0, .int 0]))] sz) []) (va_A [(a0, .inr (7, [.int 0, .ref m1, .int 0, .int (-1), .int 0, .int 0, .int 0, .ref m2, .int 0, .int 0, .ref m3, .ref m4, .ref m5, .ref m6, .ref m7, .ref m8, .ref m9, .int 0, .ref m10, .ref m11, .ref m12, .int 0, .ref m13, .ref m14, .ref m15, .int 0, .ref m16, .int 0, .int 0]))] sz)) 0 0 (va_A [(a0, .inr (7, [.int 0, .ref m1, .int 0, .int (-1), .int 0, .int 0, .int 0, .ref m2, .int 0, .int 0, .ref m3, .ref m4, .ref m5, .ref m6, .ref m7, .ref m8, .ref m9, .int 0, .ref m10, .ref m11, .ref m12, .int 0, .ref m13, .ref m14, .ref m15, .int 0, .ref m16, .int 0, .int 0]))] sz) := by
  refine Met.ofW (cc := cX7_answer) (maxL := 2) (ret := (some .int)) (by decide) rfl ?_
  intro p e s m args below meth c s₁ B hml hv
  obtain ⟨rfl, hsz, hP, hK, hD0⟩ := hv
  have hx := B.exec
  have hb := B.bytes
  have hr := B.returns
  have hts0 := atoms_spec (ws := pwX7_answer) B.pre
  have hts := fun w (h : w ∈ pwAll) => hts0 w (List.mem_cons_of_mem _ h)
  have hown : s.vm.findClass RX7 = some m.cls := findClass_of_methodNamed B.named
  have hlocks := B.notSynchronized
  subst hsz
  have hD := hD0.self (sz := s.heap.size)
  generalize hAe : va_A [(a0, .inr (7, [.int 0, .ref m1, .int 0, .int (-1), .int 0, .int 0, .int 0, .ref m2, .int 0, .int 0, .ref m3, .ref m4, .ref m5, .ref m6, .ref m7, .ref m8, .ref m9, .int 0, .ref m10, .ref m11, .ref m12, .int 0, .ref m13, .ref m14, .ref m15, .int 0, .ref m16, .int 0, .int 0]))] s.heap.size = A at hD ⊢
  have hA : ∀ q : Nat, s.heap.size ≤ q → A q := fun q h => by rw [← hAe]; exact Or.inr h
  have hS : va_S A s.heap s.heap [] := va_S.rf
  have hP : va_P (dC, dI) vwCl [(a0, .inr (7, [.int 0, .ref m1, .int 0, .int (-1), .int 0, .int 0, .int 0, .ref m2, .int 0, .int 0, .ref m3, .ref m4, .ref m5, .ref m6, .ref m7, .ref m8, .ref m9, .int 0, .ref m10, .ref m11, .ref m12, .int 0, .ref m13, .ref m14, .ref m15, .int 0, .ref m16, .int 0, .int 0]))] s.heap := hP
  have hl := lv_entry ([.ref a0]) (n := 2) (Nat.le_of_ble_eq_true rfl)
  rw [lg_entry_eq]
  generalize (lg_sl ([.ref a0]) ++ List.replicate (2 - (lg_sl ([.ref a0])).length) Slot.unset).toArray = ls at hl ⊢
  have hl : lv_has ls 2 [(0, .ref a0)] := hl
  refine lv_aload_n hx hb dX7_answer_0 rfl (lv_at hl 0 rfl) ?_
  refine va_get (D := (dC, dI)) (ci := 7) (v := .int 0) (C := RX7) (T := TX7) (N := 29) hx hb hts inAll_7 hown hK hP 0 rfl rfl 2 (by decide) (hts (.fieldLink RX7 119 "LoopEnvelopesModel" "isTaken" "Z") k_170) (fun _ h9 => h9) rfl dX7_answer_1 ?_
  refine lv_if_ne (tgt := 10) hx hb dX7_answer_4 (by decide) (fun c_4 => absurd (rfl) c_4) (fun c_4 => ?_)
  refine lv_bipush (v := (-4)) hx hb dX7_answer_7 (by decide) ?_
  have hP9 := hP.sub (ws' := []) [] rfl
  have hD9 := hD.sub (ws' := []) [] (by decide) rfl
  have hK9 := hK.sub (tys' := []) [] rfl
  exact W.iret (v := (-4)) hx hb hr (fun t ht hW => ⟨⟨(-4), (), rfl, rfl, by rw [ht]; exact hP9, va_K.moved hW.alike hK9, hD9⟩, hS.F ht⟩) hS.2.2 dX7_answer_9

set_option maxHeartbeats 4000000 in
set_option maxRecDepth 100000 in
theorem c_X7_where (l : Launch) (dC : Nat → ClassId) (dI : Nat → Nat → Nat) (sz : Nat) (a0 : Nat) (m1 : Nat) (m2 : Nat) (m3 : Nat) (m4 : Nat) (m5 : Nat) (m6 : Nat) (m7 : Nat) (m8 : Nat) (m9 : Nat) (m10 : Nat) (m11 : Nat) (m12 : Nat) (m13 : Nat) (m14 : Nat) (m15 : Nat) (m16 : Nat) : Met l yX7_where pwX7_where ({ frames := 0, cells := 0, slots := 0, locals := 0 } : Room) (va_Pc [.ref a0] (fun U => U.heap.size = sz ∧ va_P (dC, dI) vwCl [(a0, .inr (7, [.int 0, .ref m1, .int 0, .int (-1), .int 0, .int 0, .int 0, .ref m2, .int 0, .int 0, .ref m3, .ref m4, .ref m5, .ref m6, .ref m7, .ref m8, .ref m9, .int 0, .ref m10, .ref m11, .ref m12, .int 0, .ref m13, .ref m14, .ref m15, .int 0, .ref m16, .int 0, .int 0]))] U.heap ∧ va_K (dC, dI) vwCl [] U ∧ va_D (fun _ => True) [(a0, .inr (7, [.int 0, .ref m1, .int 0, .int (-1), .int 0, .int 0, .int 0, .ref m2, .int 0, .int 0, .ref m3, .ref m4, .ref m5, .ref m6, .ref m7, .ref m8, .ref m9, .int 0, .ref m10, .ref m11, .ref m12, .int 0, .ref m13, .ref m14, .ref m15, .int 0, .ref m16, .int 0, .int 0]))])) (va_Qi (fun (r : Int32) (_ : Unit) => r = (-1)) (fun (_ : Unit) (t : State) => va_P (dC, dI) vwCl [] t.heap ∧ va_K (dC, dI) vwCl [] t ∧ va_D (va_A [(a0, .inr (7, [.int 0, .ref m1, .int 0, .int (-1), .int 0, .int 0, .int 0, .ref m2, .int 0, .int 0, .ref m3, .ref m4, .ref m5, .ref m6, .ref m7, .ref m8, .ref m9, .int 0, .ref m10, .ref m11, .ref m12, .int 0, .ref m13, .ref m14, .ref m15, .int 0, .ref m16, .int 0, .int 0]))] sz) []) (va_A [(a0, .inr (7, [.int 0, .ref m1, .int 0, .int (-1), .int 0, .int 0, .int 0, .ref m2, .int 0, .int 0, .ref m3, .ref m4, .ref m5, .ref m6, .ref m7, .ref m8, .ref m9, .int 0, .ref m10, .ref m11, .ref m12, .int 0, .ref m13, .ref m14, .ref m15, .int 0, .ref m16, .int 0, .int 0]))] sz)) 0 0 (va_A [(a0, .inr (7, [.int 0, .ref m1, .int 0, .int (-1), .int 0, .int 0, .int 0, .ref m2, .int 0, .int 0, .ref m3, .ref m4, .ref m5, .ref m6, .ref m7, .ref m8, .ref m9, .int 0, .ref m10, .ref m11, .ref m12, .int 0, .ref m13, .ref m14, .ref m15, .int 0, .ref m16, .int 0, .int 0]))] sz) := by
  refine Met.ofW (cc := cX7_where) (maxL := 1) (ret := (some .int)) (by decide) rfl ?_
  intro p e s m args below meth c s₁ B hml hv
  obtain ⟨rfl, hsz, hP, hK, hD0⟩ := hv
  have hx := B.exec
  have hb := B.bytes
  have hr := B.returns
  have hts0 := atoms_spec (ws := pwX7_where) B.pre
  have hts := fun w (h : w ∈ pwAll) => hts0 w (List.mem_cons_of_mem _ h)
  have hown : s.vm.findClass RX7 = some m.cls := findClass_of_methodNamed B.named
  have hlocks := B.notSynchronized
  subst hsz
  have hD := hD0.self (sz := s.heap.size)
  generalize hAe : va_A [(a0, .inr (7, [.int 0, .ref m1, .int 0, .int (-1), .int 0, .int 0, .int 0, .ref m2, .int 0, .int 0, .ref m3, .ref m4, .ref m5, .ref m6, .ref m7, .ref m8, .ref m9, .int 0, .ref m10, .ref m11, .ref m12, .int 0, .ref m13, .ref m14, .ref m15, .int 0, .ref m16, .int 0, .int 0]))] s.heap.size = A at hD ⊢
  have hA : ∀ q : Nat, s.heap.size ≤ q → A q := fun q h => by rw [← hAe]; exact Or.inr h
  have hS : va_S A s.heap s.heap [] := va_S.rf
  have hP : va_P (dC, dI) vwCl [(a0, .inr (7, [.int 0, .ref m1, .int 0, .int (-1), .int 0, .int 0, .int 0, .ref m2, .int 0, .int 0, .ref m3, .ref m4, .ref m5, .ref m6, .ref m7, .ref m8, .ref m9, .int 0, .ref m10, .ref m11, .ref m12, .int 0, .ref m13, .ref m14, .ref m15, .int 0, .ref m16, .int 0, .int 0]))] s.heap := hP
  have hl := lv_entry ([.ref a0]) (n := 1) (Nat.le_of_ble_eq_true rfl)
  rw [lg_entry_eq]
  generalize (lg_sl ([.ref a0]) ++ List.replicate (1 - (lg_sl ([.ref a0])).length) Slot.unset).toArray = ls at hl ⊢
  have hl : lv_has ls 1 [(0, .ref a0)] := hl
  refine lv_aload_n hx hb dX7_where_0 rfl (lv_at hl 0 rfl) ?_
  refine va_get (D := (dC, dI)) (ci := 7) (v := .int (-1)) (C := RX7) (T := TX7) (N := 29) hx hb hts inAll_7 hown hK hP 0 rfl rfl 3 (by decide) (hts (.fieldLink RX7 13 "LoopEnvelopesModel" "where" "I") k_153) (fun _ h9 => h9) rfl dX7_where_1 ?_
  have hP9 := hP.sub (ws' := []) [] rfl
  have hD9 := hD.sub (ws' := []) [] (by decide) rfl
  have hK9 := hK.sub (tys' := []) [] rfl
  exact W.iret (v := (-1)) hx hb hr (fun t ht hW => ⟨⟨(-1), (), rfl, rfl, by rw [ht]; exact hP9, va_K.moved hW.alike hK9, hD9⟩, hS.F ht⟩) hS.2.2 dX7_where_4

set_option maxHeartbeats 4000000 in
set_option maxRecDepth 100000 in
theorem c_X7_set (l : Launch) (dC : Nat → ClassId) (dI : Nat → Nat → Nat) (sz : Nat) (a0 : Nat) (m1 : Nat) (m2 : Nat) (m3 : Nat) (m4 : Nat) (m5 : Nat) (m6 : Nat) (m7 : Nat) (m8 : Nat) (m9 : Nat) (m10 : Nat) (m11 : Nat) (m12 : Nat) (m13 : Nat) (m14 : Nat) (m15 : Nat) (m16 : Nat) (k0 : Int32) (k1 : Int32) : Met l yX7_set pwX7_set ({ frames := 1, cells := 0, slots := 0, locals := 22 } : Room) (va_Pc [.ref a0, .int k0, .int k1] (fun U => U.heap.size = sz ∧ va_P (dC, dI) vwCl [(a0, .inr (7, [.int 0, .ref m1, .int 0, .int (-1), .int 0, .int 0, .int 0, .ref m2, .int 0, .int 0, .ref m3, .ref m4, .ref m5, .ref m6, .ref m7, .ref m8, .ref m9, .int 0, .ref m10, .ref m11, .ref m12, .int 0, .ref m13, .ref m14, .ref m15, .int 0, .ref m16, .int 0, .int 0]))] U.heap ∧ va_K (dC, dI) vwCl [] U ∧ va_D (fun _ => True) [(a0, .inr (7, [.int 0, .ref m1, .int 0, .int (-1), .int 0, .int 0, .int 0, .ref m2, .int 0, .int 0, .ref m3, .ref m4, .ref m5, .ref m6, .ref m7, .ref m8, .ref m9, .int 0, .ref m10, .ref m11, .ref m12, .int 0, .ref m13, .ref m14, .ref m15, .int 0, .ref m16, .int 0, .int 0]))])) (va_Qi (fun (r : Int32) (_ : Unit) => r = (-2)) (fun (_ : Unit) (t : State) => va_P (dC, dI) vwCl [] t.heap ∧ va_K (dC, dI) vwCl [] t ∧ va_D (va_A [(a0, .inr (7, [.int 0, .ref m1, .int 0, .int (-1), .int 0, .int 0, .int 0, .ref m2, .int 0, .int 0, .ref m3, .ref m4, .ref m5, .ref m6, .ref m7, .ref m8, .ref m9, .int 0, .ref m10, .ref m11, .ref m12, .int 0, .ref m13, .ref m14, .ref m15, .int 0, .ref m16, .int 0, .int 0]))] sz) []) (va_A [(a0, .inr (7, [.int 0, .ref m1, .int 0, .int (-1), .int 0, .int 0, .int 0, .ref m2, .int 0, .int 0, .ref m3, .ref m4, .ref m5, .ref m6, .ref m7, .ref m8, .ref m9, .int 0, .ref m10, .ref m11, .ref m12, .int 0, .ref m13, .ref m14, .ref m15, .int 0, .ref m16, .int 0, .int 0]))] sz)) 0 0 (va_A [(a0, .inr (7, [.int 0, .ref m1, .int 0, .int (-1), .int 0, .int 0, .int 0, .ref m2, .int 0, .int 0, .ref m3, .ref m4, .ref m5, .ref m6, .ref m7, .ref m8, .ref m9, .int 0, .ref m10, .ref m11, .ref m12, .int 0, .ref m13, .ref m14, .ref m15, .int 0, .ref m16, .int 0, .int 0]))] sz) := by
  refine Met.ofW (cc := cX7_set) (maxL := 4) (ret := (some .int)) (by decide) rfl ?_
  intro p e s m args below meth c s₁ B hml hv
  obtain ⟨rfl, hsz, hP, hK, hD0⟩ := hv
  have hx := B.exec
  have hb := B.bytes
  have hr := B.returns
  have hts0 := atoms_spec (ws := pwX7_set) B.pre
  have hts := fun w (h : w ∈ pwAll) => hts0 w (List.mem_cons_of_mem _ h)
  have hown : s.vm.findClass RX7 = some m.cls := findClass_of_methodNamed B.named
  have hlocks := B.notSynchronized
  subst hsz
  have hD := hD0.self (sz := s.heap.size)
  generalize hAe : va_A [(a0, .inr (7, [.int 0, .ref m1, .int 0, .int (-1), .int 0, .int 0, .int 0, .ref m2, .int 0, .int 0, .ref m3, .ref m4, .ref m5, .ref m6, .ref m7, .ref m8, .ref m9, .int 0, .ref m10, .ref m11, .ref m12, .int 0, .ref m13, .ref m14, .ref m15, .int 0, .ref m16, .int 0, .int 0]))] s.heap.size = A at hD ⊢
  have hA : ∀ q : Nat, s.heap.size ≤ q → A q := fun q h => by rw [← hAe]; exact Or.inr h
  have hS : va_S A s.heap s.heap [] := va_S.rf
  have hP : va_P (dC, dI) vwCl [(a0, .inr (7, [.int 0, .ref m1, .int 0, .int (-1), .int 0, .int 0, .int 0, .ref m2, .int 0, .int 0, .ref m3, .ref m4, .ref m5, .ref m6, .ref m7, .ref m8, .ref m9, .int 0, .ref m10, .ref m11, .ref m12, .int 0, .ref m13, .ref m14, .ref m15, .int 0, .ref m16, .int 0, .int 0]))] s.heap := hP
  have hl := lv_entry ([.ref a0, .int k0, .int k1]) (n := 4) (Nat.le_of_ble_eq_true rfl)
  rw [lg_entry_eq]
  generalize (lg_sl ([.ref a0, .int k0, .int k1]) ++ List.replicate (4 - (lg_sl ([.ref a0, .int k0, .int k1])).length) Slot.unset).toArray = ls at hl ⊢
  have hl : lv_has ls 4 [(0, .ref a0), (1, .int k0), (2, .int k1)] := hl
  refine lv_iload_n hx hb dX7_set_0 rfl (lv_at hl 1 rfl) ?_
  refine lv_iconst (v := 0) hx hb dX7_set_1 (by decide) ?_
  refine lv_aload_n hx hb dX7_set_2 rfl (lv_at hl 0 rfl) ?_
  refine va_get (D := (dC, dI)) (ci := 7) (v := .int 0) (C := RX7) (T := TX7) (N := 29) hx hb hts inAll_7 hown hK hP 0 rfl rfl 0 (by decide) (hts (.fieldLink RX7 67 "LoopEnvelopesModel" "size" "I") k_171) (fun _ h9 => h9) rfl dX7_set_3 ?_
  refine lv_iconst (v := 1) hx hb dX7_set_6 (by decide) ?_
  refine lv_isub hx hb dX7_set_7 ?_
  refine pf_top (y := (-1)) (by decide) ?_
  have hPc := hP.sub (ws' := []) [] rfl
  have hDc := hD.sub (ws' := []) [] (by decide) rfl
  have hKc := hK.sub (tys' := []) [] rfl
  have hFc := va_free (wc := []) hD hS hA [] rfl
  refine va_calli (va_runS (As := [.int k0, .int 0, .int (-1)]) (rest := []) ⟨hx, hb, hml, hown, hts⟩ (c_X7_in l dC dI s.heap.size k0 0 (-1)) (va_cwS 3 hts gg_RX7_63 rfl rfl rfl (by decide +kernel) ⟨Nat.le_of_ble_eq_true rfl, Nat.le_of_ble_eq_true rfl⟩) ⟨fun a U g mk q => by obtain ⟨q0, q1, qP, qK, qD⟩ := q; exact ⟨q0, q1, qP, va_K.moved (u := U) (U := U.calling g mk a) (Vm.Alike.refl U.vm) qK, qD⟩, fun U hU hW => ⟨rfl, by rw [hU], by rw [hU]; exact hPc, va_K.moved hW.alike hKc, hDc.weaken (fun _ _ _ _ => trivial)⟩⟩ rfl rfl hl.1 rfl (lv_room (Nat.le_of_ble_eq_true rfl)) dX7_set_8 ⟨Nat.le_of_ble_eq_true rfl, Nat.le_of_ble_eq_true rfl⟩) hS (fun q _ h => hFc q h) hFc (fun r1 u t H1 locs ht hvm hw hB hz1 hk1 hS => ?_)
  obtain ⟨hP1, hK1, hD1⟩ := hB
  rw [ht] at hP1
  have hK1 := va_K.moved hvm.symm hK1
  obtain ⟨hP, hD⟩ := va_join (wr := [(a0, .inr (7, [.int 0, .ref m1, .int 0, .int (-1), .int 0, .int 0, .int 0, .ref m2, .int 0, .int 0, .ref m3, .ref m4, .ref m5, .ref m6, .ref m7, .ref m8, .ref m9, .int 0, .ref m10, .ref m11, .ref m12, .int 0, .ref m13, .ref m14, .ref m15, .int 0, .ref m16, .int 0, .int 0]))]) (w1 := []) hP hD [] [0] rfl rfl (by decide) (by decide) hk1 hFc hP1 hD1
  have hK := (hK.sub (tys' := []) [] rfl).app hK1
  generalize H1 = H at hP hS ⊢
  have hP : va_P (dC, dI) vwCl [(a0, .inr (7, [.int 0, .ref m1, .int 0, .int (-1), .int 0, .int 0, .int 0, .ref m2, .int 0, .int 0, .ref m3, .ref m4, .ref m5, .ref m6, .ref m7, .ref m8, .ref m9, .int 0, .ref m10, .ref m11, .ref m12, .int 0, .ref m13, .ref m14, .ref m15, .int 0, .ref m16, .int 0, .int 0]))] H := hP
  have hD : va_D A [(a0, .inr (7, [.int 0, .ref m1, .int 0, .int (-1), .int 0, .int 0, .int 0, .ref m2, .int 0, .int 0, .ref m3, .ref m4, .ref m5, .ref m6, .ref m7, .ref m8, .ref m9, .int 0, .ref m10, .ref m11, .ref m12, .int 0, .ref m13, .ref m14, .ref m15, .int 0, .ref m16, .int 0, .int 0]))] := hD
  have hK : va_K (dC, dI) vwCl [] s := hK
  have hw : r1 = pf_in k0 0 (-1) := hw
  subst hw
  refine lv_if_ne (tgt := 17) hx hb dX7_set_11 (by decide) (fun c_11 => absurd (pf_in_m1 k0) c_11) (fun c_11 => ?_)
  refine lv_bipush (v := (-2)) hx hb dX7_set_14 (by decide) ?_
  have hP9 := hP.sub (ws' := []) [] rfl
  have hD9 := hD.sub (ws' := []) [] (by decide) rfl
  have hK9 := hK.sub (tys' := []) [] rfl
  exact W.iret (v := (-2)) hx hb hr (fun t ht hW => ⟨⟨(-2), (), rfl, rfl, by rw [ht]; exact hP9, va_K.moved hW.alike hK9, hD9⟩, hS.F ht⟩) hS.2.2 dX7_set_16

set_option maxHeartbeats 4000000 in
set_option maxRecDepth 100000 in
theorem c_X7_cut (l : Launch) (dC : Nat → ClassId) (dI : Nat → Nat → Nat) (sz : Nat) (a0 : Nat) (m1 : Nat) (m2 : Nat) (m3 : Nat) (m4 : Nat) (m5 : Nat) (m6 : Nat) (m7 : Nat) (m8 : Nat) (m9 : Nat) (m10 : Nat) (m11 : Nat) (m12 : Nat) (m13 : Nat) (m14 : Nat) (m15 : Nat) (m16 : Nat) (k0 : Int32) : Met l yX7_cut pwX7_cut ({ frames := 1, cells := 0, slots := 0, locals := 22 } : Room) (va_Pc [.ref a0, .int k0] (fun U => U.heap.size = sz ∧ va_P (dC, dI) vwCl [(a0, .inr (7, [.int 0, .ref m1, .int 0, .int (-1), .int 0, .int 0, .int 0, .ref m2, .int 0, .int 0, .ref m3, .ref m4, .ref m5, .ref m6, .ref m7, .ref m8, .ref m9, .int 0, .ref m10, .ref m11, .ref m12, .int 0, .ref m13, .ref m14, .ref m15, .int 0, .ref m16, .int 0, .int 0]))] U.heap ∧ va_K (dC, dI) vwCl [] U ∧ va_D (fun _ => True) [(a0, .inr (7, [.int 0, .ref m1, .int 0, .int (-1), .int 0, .int 0, .int 0, .ref m2, .int 0, .int 0, .ref m3, .ref m4, .ref m5, .ref m6, .ref m7, .ref m8, .ref m9, .int 0, .ref m10, .ref m11, .ref m12, .int 0, .ref m13, .ref m14, .ref m15, .int 0, .ref m16, .int 0, .int 0]))])) (va_Qi (fun (r : Int32) (_ : Unit) => r = pf_cut k0) (fun (_ : Unit) (t : State) => va_P (dC, dI) vwCl [] t.heap ∧ va_K (dC, dI) vwCl [] t ∧ va_D (va_A [(a0, .inr (7, [.int 0, .ref m1, .int 0, .int (-1), .int 0, .int 0, .int 0, .ref m2, .int 0, .int 0, .ref m3, .ref m4, .ref m5, .ref m6, .ref m7, .ref m8, .ref m9, .int 0, .ref m10, .ref m11, .ref m12, .int 0, .ref m13, .ref m14, .ref m15, .int 0, .ref m16, .int 0, .int 0]))] sz) []) (va_A [(a0, .inr (7, [.int 0, .ref m1, .int 0, .int (-1), .int 0, .int 0, .int 0, .ref m2, .int 0, .int 0, .ref m3, .ref m4, .ref m5, .ref m6, .ref m7, .ref m8, .ref m9, .int 0, .ref m10, .ref m11, .ref m12, .int 0, .ref m13, .ref m14, .ref m15, .int 0, .ref m16, .int 0, .int 0]))] sz)) 0 0 (va_A [(a0, .inr (7, [.int 0, .ref m1, .int 0, .int (-1), .int 0, .int 0, .int 0, .ref m2, .int 0, .int 0, .ref m3, .ref m4, .ref m5, .ref m6, .ref m7, .ref m8, .ref m9, .int 0, .ref m10, .ref m11, .ref m12, .int 0, .ref m13, .ref m14, .ref m15, .int 0, .ref m16, .int 0, .int 0]))] sz) := by
  refine Met.ofW (cc := cX7_cut) (maxL := 3) (ret := (some .int)) (by decide) rfl ?_
  intro p e s m args below meth c s₁ B hml hv
  obtain ⟨rfl, hsz, hP, hK, hD0⟩ := hv
  have hx := B.exec
  have hb := B.bytes
  have hr := B.returns
  have hts0 := atoms_spec (ws := pwX7_cut) B.pre
  have hts := fun w (h : w ∈ pwAll) => hts0 w (List.mem_cons_of_mem _ h)
  have hown : s.vm.findClass RX7 = some m.cls := findClass_of_methodNamed B.named
  have hlocks := B.notSynchronized
  subst hsz
  have hD := hD0.self (sz := s.heap.size)
  generalize hAe : va_A [(a0, .inr (7, [.int 0, .ref m1, .int 0, .int (-1), .int 0, .int 0, .int 0, .ref m2, .int 0, .int 0, .ref m3, .ref m4, .ref m5, .ref m6, .ref m7, .ref m8, .ref m9, .int 0, .ref m10, .ref m11, .ref m12, .int 0, .ref m13, .ref m14, .ref m15, .int 0, .ref m16, .int 0, .int 0]))] s.heap.size = A at hD ⊢
  have hA : ∀ q : Nat, s.heap.size ≤ q → A q := fun q h => by rw [← hAe]; exact Or.inr h
  have hS : va_S A s.heap s.heap [] := va_S.rf
  have hP : va_P (dC, dI) vwCl [(a0, .inr (7, [.int 0, .ref m1, .int 0, .int (-1), .int 0, .int 0, .int 0, .ref m2, .int 0, .int 0, .ref m3, .ref m4, .ref m5, .ref m6, .ref m7, .ref m8, .ref m9, .int 0, .ref m10, .ref m11, .ref m12, .int 0, .ref m13, .ref m14, .ref m15, .int 0, .ref m16, .int 0, .int 0]))] s.heap := hP
  have hl := lv_entry ([.ref a0, .int k0]) (n := 3) (Nat.le_of_ble_eq_true rfl)
  rw [lg_entry_eq]
  generalize (lg_sl ([.ref a0, .int k0]) ++ List.replicate (3 - (lg_sl ([.ref a0, .int k0])).length) Slot.unset).toArray = ls at hl ⊢
  have hl : lv_has ls 3 [(0, .ref a0), (1, .int k0)] := hl
  refine lv_iload_n hx hb dX7_cut_0 rfl (lv_at hl 1 rfl) ?_
  refine lv_iconst (v := 0) hx hb dX7_cut_1 (by decide) ?_
  refine lv_aload_n hx hb dX7_cut_2 rfl (lv_at hl 0 rfl) ?_
  refine va_get (D := (dC, dI)) (ci := 7) (v := .int 0) (C := RX7) (T := TX7) (N := 29) hx hb hts inAll_7 hown hK hP 0 rfl rfl 0 (by decide) (hts (.fieldLink RX7 67 "LoopEnvelopesModel" "size" "I") k_171) (fun _ h9 => h9) rfl dX7_cut_3 ?_
  have hPc := hP.sub (ws' := []) [] rfl
  have hDc := hD.sub (ws' := []) [] (by decide) rfl
  have hKc := hK.sub (tys' := []) [] rfl
  have hFc := va_free (wc := []) hD hS hA [] rfl
  refine va_calli (va_runS (As := [.int k0, .int 0, .int 0]) (rest := []) ⟨hx, hb, hml, hown, hts⟩ (c_X7_in l dC dI s.heap.size k0 0 0) (va_cwS 3 hts gg_RX7_63 rfl rfl rfl (by decide +kernel) ⟨Nat.le_of_ble_eq_true rfl, Nat.le_of_ble_eq_true rfl⟩) ⟨fun a U g mk q => by obtain ⟨q0, q1, qP, qK, qD⟩ := q; exact ⟨q0, q1, qP, va_K.moved (u := U) (U := U.calling g mk a) (Vm.Alike.refl U.vm) qK, qD⟩, fun U hU hW => ⟨rfl, by rw [hU], by rw [hU]; exact hPc, va_K.moved hW.alike hKc, hDc.weaken (fun _ _ _ _ => trivial)⟩⟩ rfl rfl hl.1 rfl (lv_room (Nat.le_of_ble_eq_true rfl)) dX7_cut_6 ⟨Nat.le_of_ble_eq_true rfl, Nat.le_of_ble_eq_true rfl⟩) hS (fun q _ h => hFc q h) hFc (fun r1 u t H1 locs ht hvm hw hB hz1 hk1 hS => ?_)
  obtain ⟨hP1, hK1, hD1⟩ := hB
  rw [ht] at hP1
  have hK1 := va_K.moved hvm.symm hK1
  obtain ⟨hP, hD⟩ := va_join (wr := [(a0, .inr (7, [.int 0, .ref m1, .int 0, .int (-1), .int 0, .int 0, .int 0, .ref m2, .int 0, .int 0, .ref m3, .ref m4, .ref m5, .ref m6, .ref m7, .ref m8, .ref m9, .int 0, .ref m10, .ref m11, .ref m12, .int 0, .ref m13, .ref m14, .ref m15, .int 0, .ref m16, .int 0, .int 0]))]) (w1 := []) hP hD [] [0] rfl rfl (by decide) (by decide) hk1 hFc hP1 hD1
  have hK := (hK.sub (tys' := []) [] rfl).app hK1
  generalize H1 = H at hP hS ⊢
  have hP : va_P (dC, dI) vwCl [(a0, .inr (7, [.int 0, .ref m1, .int 0, .int (-1), .int 0, .int 0, .int 0, .ref m2, .int 0, .int 0, .ref m3, .ref m4, .ref m5, .ref m6, .ref m7, .ref m8, .ref m9, .int 0, .ref m10, .ref m11, .ref m12, .int 0, .ref m13, .ref m14, .ref m15, .int 0, .ref m16, .int 0, .int 0]))] H := hP
  have hD : va_D A [(a0, .inr (7, [.int 0, .ref m1, .int 0, .int (-1), .int 0, .int 0, .int 0, .ref m2, .int 0, .int 0, .ref m3, .ref m4, .ref m5, .ref m6, .ref m7, .ref m8, .ref m9, .int 0, .ref m10, .ref m11, .ref m12, .int 0, .ref m13, .ref m14, .ref m15, .int 0, .ref m16, .int 0, .int 0]))] := hD
  have hK : va_K (dC, dI) vwCl [] s := hK
  have hw : r1 = pf_in k0 0 0 := hw
  subst hw
  refine lv_if_ne (tgt := 15) hx hb dX7_cut_9 (by decide) (fun c_9 => ?_) (fun c_9 => ?_)
  · skip
    refine lv_aload_n hx hb dX7_cut_15 rfl (lv_at hl 0 rfl) ?_
    refine va_get (D := (dC, dI)) (ci := 7) (v := .int 0) (C := RX7) (T := TX7) (N := 29) hx hb hts inAll_7 hown hK hP 0 rfl rfl 0 (by decide) (hts (.fieldLink RX7 67 "LoopEnvelopesModel" "size" "I") k_171) (fun _ h9 => h9) rfl dX7_cut_16 ?_
    refine lv_iload_n hx hb dX7_cut_19 rfl (lv_at hl 1 rfl) ?_
    refine lv_isub hx hb dX7_cut_20 ?_
    refine pf_top (y := 0) (pf_cut_k c_9) ?_
    refine lv_istore_n (lv' := [(2, .int 0), (0, .ref a0), (1, .int k0)]) hx hb dX7_cut_21 rfl hl (by decide) rfl (fun ls hl => ?_)
    refine lv_aload_n hx hb dX7_cut_22 rfl (lv_at hl 1 rfl) ?_
    refine lv_iload_n hx hb dX7_cut_23 rfl (lv_at hl 2 rfl) ?_
    refine va_put (D := (dC, dI)) (ci := 7) (v := .int k0) (ty := .int) (C := RX7) (T := TX7) (N := 29) hx hb hts inAll_7 tyX7 tyX7_ok nmX7 hown hK hP hD hS 0 rfl rfl 0 (by decide) (hts (.fieldLink RX7 67 "LoopEnvelopesModel" "size" "I") k_171) (fun _ h9 => h9) rfl (by decide +kernel) rfl rfl (Nat.le_of_ble_eq_true rfl) dX7_cut_24 (fun H locs hP hD hS => ?_)
    have hP : va_P (dC, dI) vwCl [(a0, .inr (7, [.int k0, .ref m1, .int 0, .int (-1), .int 0, .int 0, .int 0, .ref m2, .int 0, .int 0, .ref m3, .ref m4, .ref m5, .ref m6, .ref m7, .ref m8, .ref m9, .int 0, .ref m10, .ref m11, .ref m12, .int 0, .ref m13, .ref m14, .ref m15, .int 0, .ref m16, .int 0, .int 0]))] H := hP
    have hD : va_D A [(a0, .inr (7, [.int k0, .ref m1, .int 0, .int (-1), .int 0, .int 0, .int 0, .ref m2, .int 0, .int 0, .ref m3, .ref m4, .ref m5, .ref m6, .ref m7, .ref m8, .ref m9, .int 0, .ref m10, .ref m11, .ref m12, .int 0, .ref m13, .ref m14, .ref m15, .int 0, .ref m16, .int 0, .int 0]))] := hD
    refine lv_iload_n hx hb dX7_cut_27 rfl (lv_at hl 0 rfl) ?_
    have hP9 := hP.sub (ws' := []) [] rfl
    have hD9 := hD.sub (ws' := []) [] (by decide) rfl
    have hK9 := hK.sub (tys' := []) [] rfl
    exact W.iret (v := 0) hx hb hr (fun t ht hW => ⟨⟨0, (), rfl, (pf_cut_in c_9).symm, by rw [ht]; exact hP9, va_K.moved hW.alike hK9, hD9⟩, hS.F ht⟩) hS.2.2 dX7_cut_28
  · skip
    refine lv_bipush (v := (-3)) hx hb dX7_cut_12 (by decide) ?_
    have hP9 := hP.sub (ws' := []) [] rfl
    have hD9 := hD.sub (ws' := []) [] (by decide) rfl
    have hK9 := hK.sub (tys' := []) [] rfl
    exact W.iret (v := (-3)) hx hb hr (fun t ht hW => ⟨⟨(-3), (), rfl, (pf_cut_out c_9).symm, by rw [ht]; exact hP9, va_K.moved hW.alike hK9, hD9⟩, hS.F ht⟩) hS.2.2 dX7_cut_14

set_option maxHeartbeats 4000000 in
set_option maxRecDepth 100000 in
theorem c_X7_count (l : Launch) (dC : Nat → ClassId) (dI : Nat → Nat → Nat) (sz : Nat) (a0 : Nat) (m1 : Nat) (m2 : Nat) (m3 : Nat) (m4 : Nat) (m5 : Nat) (m6 : Nat) (m7 : Nat) (m8 : Nat) (m9 : Nat) (m10 : Nat) (m11 : Nat) (m12 : Nat) (m13 : Nat) (m14 : Nat) (m15 : Nat) (m16 : Nat) (k0 : Int32) : Met l yX7_count pwX7_count ({ frames := 1, cells := 0, slots := 0, locals := 22 } : Room) (va_Pc [.ref a0, .int k0] (fun U => U.heap.size = sz ∧ va_P (dC, dI) vwCl [(a0, .inr (7, [.int 0, .ref m1, .int 0, .int (-1), .int 0, .int 0, .int 0, .ref m2, .int 0, .int 0, .ref m3, .ref m4, .ref m5, .ref m6, .ref m7, .ref m8, .ref m9, .int 0, .ref m10, .ref m11, .ref m12, .int 0, .ref m13, .ref m14, .ref m15, .int 0, .ref m16, .int 0, .int 0]))] U.heap ∧ va_K (dC, dI) vwCl [] U ∧ va_D (fun _ => True) [(a0, .inr (7, [.int 0, .ref m1, .int 0, .int (-1), .int 0, .int 0, .int 0, .ref m2, .int 0, .int 0, .ref m3, .ref m4, .ref m5, .ref m6, .ref m7, .ref m8, .ref m9, .int 0, .ref m10, .ref m11, .ref m12, .int 0, .ref m13, .ref m14, .ref m15, .int 0, .ref m16, .int 0, .int 0]))])) (va_Qi (fun (r : Int32) (_ : Unit) => r = pf_count k0) (fun (_ : Unit) (t : State) => va_P (dC, dI) vwCl [] t.heap ∧ va_K (dC, dI) vwCl [] t ∧ va_D (va_A [(a0, .inr (7, [.int 0, .ref m1, .int 0, .int (-1), .int 0, .int 0, .int 0, .ref m2, .int 0, .int 0, .ref m3, .ref m4, .ref m5, .ref m6, .ref m7, .ref m8, .ref m9, .int 0, .ref m10, .ref m11, .ref m12, .int 0, .ref m13, .ref m14, .ref m15, .int 0, .ref m16, .int 0, .int 0]))] sz) []) (va_A [(a0, .inr (7, [.int 0, .ref m1, .int 0, .int (-1), .int 0, .int 0, .int 0, .ref m2, .int 0, .int 0, .ref m3, .ref m4, .ref m5, .ref m6, .ref m7, .ref m8, .ref m9, .int 0, .ref m10, .ref m11, .ref m12, .int 0, .ref m13, .ref m14, .ref m15, .int 0, .ref m16, .int 0, .int 0]))] sz)) 0 0 (va_A [(a0, .inr (7, [.int 0, .ref m1, .int 0, .int (-1), .int 0, .int 0, .int 0, .ref m2, .int 0, .int 0, .ref m3, .ref m4, .ref m5, .ref m6, .ref m7, .ref m8, .ref m9, .int 0, .ref m10, .ref m11, .ref m12, .int 0, .ref m13, .ref m14, .ref m15, .int 0, .ref m16, .int 0, .int 0]))] sz) := by
  refine Met.ofW (cc := cX7_count) (maxL := 2) (ret := (some .int)) (by decide) rfl ?_
  intro p e s m args below meth c s₁ B hml hv
  obtain ⟨rfl, hsz, hP, hK, hD0⟩ := hv
  have hx := B.exec
  have hb := B.bytes
  have hr := B.returns
  have hts0 := atoms_spec (ws := pwX7_count) B.pre
  have hts := fun w (h : w ∈ pwAll) => hts0 w (List.mem_cons_of_mem _ h)
  have hown : s.vm.findClass RX7 = some m.cls := findClass_of_methodNamed B.named
  have hlocks := B.notSynchronized
  subst hsz
  have hD := hD0.self (sz := s.heap.size)
  generalize hAe : va_A [(a0, .inr (7, [.int 0, .ref m1, .int 0, .int (-1), .int 0, .int 0, .int 0, .ref m2, .int 0, .int 0, .ref m3, .ref m4, .ref m5, .ref m6, .ref m7, .ref m8, .ref m9, .int 0, .ref m10, .ref m11, .ref m12, .int 0, .ref m13, .ref m14, .ref m15, .int 0, .ref m16, .int 0, .int 0]))] s.heap.size = A at hD ⊢
  have hA : ∀ q : Nat, s.heap.size ≤ q → A q := fun q h => by rw [← hAe]; exact Or.inr h
  have hS : va_S A s.heap s.heap [] := va_S.rf
  have hP : va_P (dC, dI) vwCl [(a0, .inr (7, [.int 0, .ref m1, .int 0, .int (-1), .int 0, .int 0, .int 0, .ref m2, .int 0, .int 0, .ref m3, .ref m4, .ref m5, .ref m6, .ref m7, .ref m8, .ref m9, .int 0, .ref m10, .ref m11, .ref m12, .int 0, .ref m13, .ref m14, .ref m15, .int 0, .ref m16, .int 0, .int 0]))] s.heap := hP
  have hl := lv_entry ([.ref a0, .int k0]) (n := 2) (Nat.le_of_ble_eq_true rfl)
  rw [lg_entry_eq]
  generalize (lg_sl ([.ref a0, .int k0]) ++ List.replicate (2 - (lg_sl ([.ref a0, .int k0])).length) Slot.unset).toArray = ls at hl ⊢
  have hl : lv_has ls 2 [(0, .ref a0), (1, .int k0)] := hl
  refine lv_iload_n hx hb dX7_count_0 rfl (lv_at hl 1 rfl) ?_
  refine lv_iconst (v := 0) hx hb dX7_count_1 (by decide) ?_
  refine lv_bipush (v := 6) hx hb dX7_count_2 (by decide) ?_
  have hPc := hP.sub (ws' := []) [] rfl
  have hDc := hD.sub (ws' := []) [] (by decide) rfl
  have hKc := hK.sub (tys' := []) [] rfl
  have hFc := va_free (wc := []) hD hS hA [] rfl
  refine va_calli (va_runS (As := [.int k0, .int 0, .int 6]) (rest := []) ⟨hx, hb, hml, hown, hts⟩ (c_X7_in l dC dI s.heap.size k0 0 6) (va_cwS 3 hts gg_RX7_63 rfl rfl rfl (by decide +kernel) ⟨Nat.le_of_ble_eq_true rfl, Nat.le_of_ble_eq_true rfl⟩) ⟨fun a U g mk q => by obtain ⟨q0, q1, qP, qK, qD⟩ := q; exact ⟨q0, q1, qP, va_K.moved (u := U) (U := U.calling g mk a) (Vm.Alike.refl U.vm) qK, qD⟩, fun U hU hW => ⟨rfl, by rw [hU], by rw [hU]; exact hPc, va_K.moved hW.alike hKc, hDc.weaken (fun _ _ _ _ => trivial)⟩⟩ rfl rfl hl.1 rfl (lv_room (Nat.le_of_ble_eq_true rfl)) dX7_count_4 ⟨Nat.le_of_ble_eq_true rfl, Nat.le_of_ble_eq_true rfl⟩) hS (fun q _ h => hFc q h) hFc (fun r1 u t H1 locs ht hvm hw hB hz1 hk1 hS => ?_)
  obtain ⟨hP1, hK1, hD1⟩ := hB
  rw [ht] at hP1
  have hK1 := va_K.moved hvm.symm hK1
  obtain ⟨hP, hD⟩ := va_join (wr := [(a0, .inr (7, [.int 0, .ref m1, .int 0, .int (-1), .int 0, .int 0, .int 0, .ref m2, .int 0, .int 0, .ref m3, .ref m4, .ref m5, .ref m6, .ref m7, .ref m8, .ref m9, .int 0, .ref m10, .ref m11, .ref m12, .int 0, .ref m13, .ref m14, .ref m15, .int 0, .ref m16, .int 0, .int 0]))]) (w1 := []) hP hD [] [0] rfl rfl (by decide) (by decide) hk1 hFc hP1 hD1
  have hK := (hK.sub (tys' := []) [] rfl).app hK1
  generalize H1 = H at hP hS ⊢
  have hP : va_P (dC, dI) vwCl [(a0, .inr (7, [.int 0, .ref m1, .int 0, .int (-1), .int 0, .int 0, .int 0, .ref m2, .int 0, .int 0, .ref m3, .ref m4, .ref m5, .ref m6, .ref m7, .ref m8, .ref m9, .int 0, .ref m10, .ref m11, .ref m12, .int 0, .ref m13, .ref m14, .ref m15, .int 0, .ref m16, .int 0, .int 0]))] H := hP
  have hD : va_D A [(a0, .inr (7, [.int 0, .ref m1, .int 0, .int (-1), .int 0, .int 0, .int 0, .ref m2, .int 0, .int 0, .ref m3, .ref m4, .ref m5, .ref m6, .ref m7, .ref m8, .ref m9, .int 0, .ref m10, .ref m11, .ref m12, .int 0, .ref m13, .ref m14, .ref m15, .int 0, .ref m16, .int 0, .int 0]))] := hD
  have hK : va_K (dC, dI) vwCl [] s := hK
  have hw : r1 = pf_in k0 0 6 := hw
  subst hw
  refine lv_if_ne (tgt := 13) hx hb dX7_count_7 (by decide) (fun c_7 => ?_) (fun c_7 => ?_)
  · skip
    refine lv_iload_n hx hb dX7_count_13 rfl (lv_at hl 1 rfl) ?_
    refine lv_iconst (v := 5) hx hb dX7_count_14 (by decide) ?_
    refine lv_icmp_ne (tgt := 23) hx hb dX7_count_15 (by decide) (fun c_15 => ?_) (fun c_15 => ?_)
    · skip
      refine lv_iload_n hx hb dX7_count_23 rfl (lv_at hl 1 rfl) ?_
      refine lv_bipush (v := 6) hx hb dX7_count_24 (by decide) ?_
      refine lv_icmp_ne (tgt := 34) hx hb dX7_count_26 (by decide) (fun c_26 => ?_) (fun c_26 => ?_)
      · skip
        refine lv_aload_n hx hb dX7_count_34 rfl (lv_at hl 0 rfl) ?_
        refine va_get (D := (dC, dI)) (ci := 7) (v := .int 0) (C := RX7) (T := TX7) (N := 29) hx hb hts inAll_7 hown hK hP 0 rfl rfl 2 (by decide) (hts (.fieldLink RX7 119 "LoopEnvelopesModel" "isTaken" "Z") k_170) (fun _ h9 => h9) rfl dX7_count_35 ?_
        refine lv_if_ne (tgt := 44) hx hb dX7_count_38 (by decide) (fun c_38 => absurd (rfl) c_38) (fun c_38 => ?_)
        refine lv_bipush (v := (-4)) hx hb dX7_count_41 (by decide) ?_
        have hP9 := hP.sub (ws' := []) [] rfl
        have hD9 := hD.sub (ws' := []) [] (by decide) rfl
        have hK9 := hK.sub (tys' := []) [] rfl
        exact W.iret (v := (-4)) hx hb hr (fun t ht hW => ⟨⟨(-4), (), rfl, by rw [pf_count_in c_7, if_neg c_15, if_neg c_26], by rw [ht]; exact hP9, va_K.moved hW.alike hK9, hD9⟩, hS.F ht⟩) hS.2.2 dX7_count_43
      · skip
        refine lv_aload_n hx hb dX7_count_29 rfl (lv_at hl 0 rfl) ?_
        refine va_get (D := (dC, dI)) (ci := 7) (v := .int 0) (C := RX7) (T := TX7) (N := 29) hx hb hts inAll_7 hown hK hP 0 rfl rfl 25 (by decide) (hts (.fieldLink RX7 223 "LoopEnvelopesModel" "answered" "I") k_176) (fun _ h9 => h9) rfl dX7_count_30 ?_
        have hP9 := hP.sub (ws' := []) [] rfl
        have hD9 := hD.sub (ws' := []) [] (by decide) rfl
        have hK9 := hK.sub (tys' := []) [] rfl
        exact W.iret (v := 0) hx hb hr (fun t ht hW => ⟨⟨0, (), rfl, by rw [pf_count_in c_7, if_neg c_15, if_pos c_26], by rw [ht]; exact hP9, va_K.moved hW.alike hK9, hD9⟩, hS.F ht⟩) hS.2.2 dX7_count_33
    · skip
      refine lv_aload_n hx hb dX7_count_18 rfl (lv_at hl 0 rfl) ?_
      refine va_get (D := (dC, dI)) (ci := 7) (v := .int 0) (C := RX7) (T := TX7) (N := 29) hx hb hts inAll_7 hown hK hP 0 rfl rfl 0 (by decide) (hts (.fieldLink RX7 67 "LoopEnvelopesModel" "size" "I") k_171) (fun _ h9 => h9) rfl dX7_count_19 ?_
      have hP9 := hP.sub (ws' := []) [] rfl
      have hD9 := hD.sub (ws' := []) [] (by decide) rfl
      have hK9 := hK.sub (tys' := []) [] rfl
      exact W.iret (v := 0) hx hb hr (fun t ht hW => ⟨⟨0, (), rfl, by rw [pf_count_in c_7, if_pos c_15], by rw [ht]; exact hP9, va_K.moved hW.alike hK9, hD9⟩, hS.F ht⟩) hS.2.2 dX7_count_22
  · skip
    refine lv_bipush (v := (-3)) hx hb dX7_count_10 (by decide) ?_
    have hP9 := hP.sub (ws' := []) [] rfl
    have hD9 := hD.sub (ws' := []) [] (by decide) rfl
    have hK9 := hK.sub (tys' := []) [] rfl
    exact W.iret (v := (-3)) hx hb hr (fun t ht hW => ⟨⟨(-3), (), rfl, (pf_count_out c_7).symm, by rw [ht]; exact hP9, va_K.moved hW.alike hK9, hD9⟩, hS.F ht⟩) hS.2.2 dX7_count_12

set_option maxHeartbeats 4000000 in
set_option maxRecDepth 100000 in
theorem c_X7_answered (l : Launch) (dC : Nat → ClassId) (dI : Nat → Nat → Nat) (sz : Nat) (a0 : Nat) (m1 : Nat) (m2 : Nat) (m3 : Nat) (m4 : Nat) (m5 : Nat) (m6 : Nat) (m7 : Nat) (m8 : Nat) (m9 : Nat) (m10 : Nat) (m11 : Nat) (m12 : Nat) (m13 : Nat) (m14 : Nat) (m15 : Nat) (m16 : Nat) (k0 : Int32) : Met l yX7_answered pwX7_answered ({ frames := 1, cells := 0, slots := 0, locals := 22 } : Room) (va_Pc [.ref a0, .int k0] (fun U => U.heap.size = sz ∧ va_P (dC, dI) vwCl [(a0, .inr (7, [.int 0, .ref m1, .int 0, .int (-1), .int 0, .int 0, .int 0, .ref m2, .int 0, .int 0, .ref m3, .ref m4, .ref m5, .ref m6, .ref m7, .ref m8, .ref m9, .int 0, .ref m10, .ref m11, .ref m12, .int 0, .ref m13, .ref m14, .ref m15, .int 0, .ref m16, .int 0, .int 0]))] U.heap ∧ va_K (dC, dI) vwCl [] U ∧ va_D (fun _ => True) [(a0, .inr (7, [.int 0, .ref m1, .int 0, .int (-1), .int 0, .int 0, .int 0, .ref m2, .int 0, .int 0, .ref m3, .ref m4, .ref m5, .ref m6, .ref m7, .ref m8, .ref m9, .int 0, .ref m10, .ref m11, .ref m12, .int 0, .ref m13, .ref m14, .ref m15, .int 0, .ref m16, .int 0, .int 0]))])) (va_Qi (fun (r : Int32) (_ : Unit) => r = (-2)) (fun (_ : Unit) (t : State) => va_P (dC, dI) vwCl [] t.heap ∧ va_K (dC, dI) vwCl [] t ∧ va_D (va_A [(a0, .inr (7, [.int 0, .ref m1, .int 0, .int (-1), .int 0, .int 0, .int 0, .ref m2, .int 0, .int 0, .ref m3, .ref m4, .ref m5, .ref m6, .ref m7, .ref m8, .ref m9, .int 0, .ref m10, .ref m11, .ref m12, .int 0, .ref m13, .ref m14, .ref m15, .int 0, .ref m16, .int 0, .int 0]))] sz) []) (va_A [(a0, .inr (7, [.int 0, .ref m1, .int 0, .int (-1), .int 0, .int 0, .int 0, .ref m2, .int 0, .int 0, .ref m3, .ref m4, .ref m5, .ref m6, .ref m7, .ref m8, .ref m9, .int 0, .ref m10, .ref m11, .ref m12, .int 0, .ref m13, .ref m14, .ref m15, .int 0, .ref m16, .int 0, .int 0]))] sz)) 0 0 (va_A [(a0, .inr (7, [.int 0, .ref m1, .int 0, .int (-1), .int 0, .int 0, .int 0, .ref m2, .int 0, .int 0, .ref m3, .ref m4, .ref m5, .ref m6, .ref m7, .ref m8, .ref m9, .int 0, .ref m10, .ref m11, .ref m12, .int 0, .ref m13, .ref m14, .ref m15, .int 0, .ref m16, .int 0, .int 0]))] sz) := by
  refine Met.ofW (cc := cX7_answered) (maxL := 2) (ret := (some .int)) (by decide) rfl ?_
  intro p e s m args below meth c s₁ B hml hv
  obtain ⟨rfl, hsz, hP, hK, hD0⟩ := hv
  have hx := B.exec
  have hb := B.bytes
  have hr := B.returns
  have hts0 := atoms_spec (ws := pwX7_answered) B.pre
  have hts := fun w (h : w ∈ pwAll) => hts0 w (List.mem_cons_of_mem _ h)
  have hown : s.vm.findClass RX7 = some m.cls := findClass_of_methodNamed B.named
  have hlocks := B.notSynchronized
  subst hsz
  have hD := hD0.self (sz := s.heap.size)
  generalize hAe : va_A [(a0, .inr (7, [.int 0, .ref m1, .int 0, .int (-1), .int 0, .int 0, .int 0, .ref m2, .int 0, .int 0, .ref m3, .ref m4, .ref m5, .ref m6, .ref m7, .ref m8, .ref m9, .int 0, .ref m10, .ref m11, .ref m12, .int 0, .ref m13, .ref m14, .ref m15, .int 0, .ref m16, .int 0, .int 0]))] s.heap.size = A at hD ⊢
  have hA : ∀ q : Nat, s.heap.size ≤ q → A q := fun q h => by rw [← hAe]; exact Or.inr h
  have hS : va_S A s.heap s.heap [] := va_S.rf
  have hP : va_P (dC, dI) vwCl [(a0, .inr (7, [.int 0, .ref m1, .int 0, .int (-1), .int 0, .int 0, .int 0, .ref m2, .int 0, .int 0, .ref m3, .ref m4, .ref m5, .ref m6, .ref m7, .ref m8, .ref m9, .int 0, .ref m10, .ref m11, .ref m12, .int 0, .ref m13, .ref m14, .ref m15, .int 0, .ref m16, .int 0, .int 0]))] s.heap := hP
  have hl := lv_entry ([.ref a0, .int k0]) (n := 2) (Nat.le_of_ble_eq_true rfl)
  rw [lg_entry_eq]
  generalize (lg_sl ([.ref a0, .int k0]) ++ List.replicate (2 - (lg_sl ([.ref a0, .int k0])).length) Slot.unset).toArray = ls at hl ⊢
  have hl : lv_has ls 2 [(0, .ref a0), (1, .int k0)] := hl
  refine lv_iload_n hx hb dX7_answered_0 rfl (lv_at hl 1 rfl) ?_
  refine lv_iconst (v := 0) hx hb dX7_answered_1 (by decide) ?_
  refine lv_aload_n hx hb dX7_answered_2 rfl (lv_at hl 0 rfl) ?_
  refine va_get (D := (dC, dI)) (ci := 7) (v := .int 0) (C := RX7) (T := TX7) (N := 29) hx hb hts inAll_7 hown hK hP 0 rfl rfl 25 (by decide) (hts (.fieldLink RX7 223 "LoopEnvelopesModel" "answered" "I") k_176) (fun _ h9 => h9) rfl dX7_answered_3 ?_
  refine lv_iconst (v := 1) hx hb dX7_answered_6 (by decide) ?_
  refine lv_isub hx hb dX7_answered_7 ?_
  refine pf_top (y := (-1)) (by decide) ?_
  have hPc := hP.sub (ws' := []) [] rfl
  have hDc := hD.sub (ws' := []) [] (by decide) rfl
  have hKc := hK.sub (tys' := []) [] rfl
  have hFc := va_free (wc := []) hD hS hA [] rfl
  refine va_calli (va_runS (As := [.int k0, .int 0, .int (-1)]) (rest := []) ⟨hx, hb, hml, hown, hts⟩ (c_X7_in l dC dI s.heap.size k0 0 (-1)) (va_cwS 3 hts gg_RX7_63 rfl rfl rfl (by decide +kernel) ⟨Nat.le_of_ble_eq_true rfl, Nat.le_of_ble_eq_true rfl⟩) ⟨fun a U g mk q => by obtain ⟨q0, q1, qP, qK, qD⟩ := q; exact ⟨q0, q1, qP, va_K.moved (u := U) (U := U.calling g mk a) (Vm.Alike.refl U.vm) qK, qD⟩, fun U hU hW => ⟨rfl, by rw [hU], by rw [hU]; exact hPc, va_K.moved hW.alike hKc, hDc.weaken (fun _ _ _ _ => trivial)⟩⟩ rfl rfl hl.1 rfl (lv_room (Nat.le_of_ble_eq_true rfl)) dX7_answered_8 ⟨Nat.le_of_ble_eq_true rfl, Nat.le_of_ble_eq_true rfl⟩) hS (fun q _ h => hFc q h) hFc (fun r1 u t H1 locs ht hvm hw hB hz1 hk1 hS => ?_)
  obtain ⟨hP1, hK1, hD1⟩ := hB
  rw [ht] at hP1
  have hK1 := va_K.moved hvm.symm hK1
  obtain ⟨hP, hD⟩ := va_join (wr := [(a0, .inr (7, [.int 0, .ref m1, .int 0, .int (-1), .int 0, .int 0, .int 0, .ref m2, .int 0, .int 0, .ref m3, .ref m4, .ref m5, .ref m6, .ref m7, .ref m8, .ref m9, .int 0, .ref m10, .ref m11, .ref m12, .int 0, .ref m13, .ref m14, .ref m15, .int 0, .ref m16, .int 0, .int 0]))]) (w1 := []) hP hD [] [0] rfl rfl (by decide) (by decide) hk1 hFc hP1 hD1
  have hK := (hK.sub (tys' := []) [] rfl).app hK1
  generalize H1 = H at hP hS ⊢
  have hP : va_P (dC, dI) vwCl [(a0, .inr (7, [.int 0, .ref m1, .int 0, .int (-1), .int 0, .int 0, .int 0, .ref m2, .int 0, .int 0, .ref m3, .ref m4, .ref m5, .ref m6, .ref m7, .ref m8, .ref m9, .int 0, .ref m10, .ref m11, .ref m12, .int 0, .ref m13, .ref m14, .ref m15, .int 0, .ref m16, .int 0, .int 0]))] H := hP
  have hD : va_D A [(a0, .inr (7, [.int 0, .ref m1, .int 0, .int (-1), .int 0, .int 0, .int 0, .ref m2, .int 0, .int 0, .ref m3, .ref m4, .ref m5, .ref m6, .ref m7, .ref m8, .ref m9, .int 0, .ref m10, .ref m11, .ref m12, .int 0, .ref m13, .ref m14, .ref m15, .int 0, .ref m16, .int 0, .int 0]))] := hD
  have hK : va_K (dC, dI) vwCl [] s := hK
  have hw : r1 = pf_in k0 0 (-1) := hw
  subst hw
  refine lv_if_eq (tgt := 23) hx hb dX7_answered_11 (by decide) (fun c_11 => ?_) (fun c_11 => absurd (pf_in_m1 k0) c_11)
  refine lv_bipush (v := (-2)) hx hb dX7_answered_23 (by decide) ?_
  have hP9 := hP.sub (ws' := []) [] rfl
  have hD9 := hD.sub (ws' := []) [] (by decide) rfl
  have hK9 := hK.sub (tys' := []) [] rfl
  exact W.iret (v := (-2)) hx hb hr (fun t ht hW => ⟨⟨(-2), (), rfl, rfl, by rw [ht]; exact hP9, va_K.moved hW.alike hK9, hD9⟩, hS.F ht⟩) hS.2.2 dX7_answered_25

set_option maxHeartbeats 4000000 in
set_option maxRecDepth 100000 in
theorem c_X7_turn (l : Launch) (dC : Nat → ClassId) (dI : Nat → Nat → Nat) (sz : Nat) (a0 : Nat) (m1 : Nat) (m2 : Nat) (m3 : Nat) (m4 : Nat) (m5 : Nat) (m6 : Nat) (m7 : Nat) (m8 : Nat) (m9 : Nat) (m10 : Nat) (m11 : Nat) (m12 : Nat) (m13 : Nat) (m14 : Nat) (m15 : Nat) (m16 : Nat) : Met l yX7_turn pwX7_turn ({ frames := 0, cells := 0, slots := 0, locals := 0 } : Room) (va_Pc [.ref a0] (fun U => U.heap.size = sz ∧ va_P (dC, dI) vwCl [(a0, .inr (7, [.int 0, .ref m1, .int 0, .int (-1), .int 0, .int 0, .int 0, .ref m2, .int 0, .int 0, .ref m3, .ref m4, .ref m5, .ref m6, .ref m7, .ref m8, .ref m9, .int 0, .ref m10, .ref m11, .ref m12, .int 0, .ref m13, .ref m14, .ref m15, .int 0, .ref m16, .int 0, .int 0]))] U.heap ∧ va_K (dC, dI) vwCl [] U ∧ va_D (fun _ => True) [(a0, .inr (7, [.int 0, .ref m1, .int 0, .int (-1), .int 0, .int 0, .int 0, .ref m2, .int 0, .int 0, .ref m3, .ref m4, .ref m5, .ref m6, .ref m7, .ref m8, .ref m9, .int 0, .ref m10, .ref m11, .ref m12, .int 0, .ref m13, .ref m14, .ref m15, .int 0, .ref m16, .int 0, .int 0]))])) (va_Qi (fun (r : Int32) (_ : Unit) => r = (-4)) (fun (_ : Unit) (t : State) => va_P (dC, dI) vwCl [] t.heap ∧ va_K (dC, dI) vwCl [] t ∧ va_D (va_A [(a0, .inr (7, [.int 0, .ref m1, .int 0, .int (-1), .int 0, .int 0, .int 0, .ref m2, .int 0, .int 0, .ref m3, .ref m4, .ref m5, .ref m6, .ref m7, .ref m8, .ref m9, .int 0, .ref m10, .ref m11, .ref m12, .int 0, .ref m13, .ref m14, .ref m15, .int 0, .ref m16, .int 0, .int 0]))] sz) []) (va_A [(a0, .inr (7, [.int 0, .ref m1, .int 0, .int (-1), .int 0, .int 0, .int 0, .ref m2, .int 0, .int 0, .ref m3, .ref m4, .ref m5, .ref m6, .ref m7, .ref m8, .ref m9, .int 0, .ref m10, .ref m11, .ref m12, .int 0, .ref m13, .ref m14, .ref m15, .int 0, .ref m16, .int 0, .int 0]))] sz)) 0 0 (va_A [(a0, .inr (7, [.int 0, .ref m1, .int 0, .int (-1), .int 0, .int 0, .int 0, .ref m2, .int 0, .int 0, .ref m3, .ref m4, .ref m5, .ref m6, .ref m7, .ref m8, .ref m9, .int 0, .ref m10, .ref m11, .ref m12, .int 0, .ref m13, .ref m14, .ref m15, .int 0, .ref m16, .int 0, .int 0]))] sz) := by
  refine Met.ofW (cc := cX7_turn) (maxL := 2) (ret := (some .int)) (by decide) rfl ?_
  intro p e s m args below meth c s₁ B hml hv
  obtain ⟨rfl, hsz, hP, hK, hD0⟩ := hv
  have hx := B.exec
  have hb := B.bytes
  have hr := B.returns
  have hts0 := atoms_spec (ws := pwX7_turn) B.pre
  have hts := fun w (h : w ∈ pwAll) => hts0 w (List.mem_cons_of_mem _ h)
  have hown : s.vm.findClass RX7 = some m.cls := findClass_of_methodNamed B.named
  have hlocks := B.notSynchronized
  subst hsz
  have hD := hD0.self (sz := s.heap.size)
  generalize hAe : va_A [(a0, .inr (7, [.int 0, .ref m1, .int 0, .int (-1), .int 0, .int 0, .int 0, .ref m2, .int 0, .int 0, .ref m3, .ref m4, .ref m5, .ref m6, .ref m7, .ref m8, .ref m9, .int 0, .ref m10, .ref m11, .ref m12, .int 0, .ref m13, .ref m14, .ref m15, .int 0, .ref m16, .int 0, .int 0]))] s.heap.size = A at hD ⊢
  have hA : ∀ q : Nat, s.heap.size ≤ q → A q := fun q h => by rw [← hAe]; exact Or.inr h
  have hS : va_S A s.heap s.heap [] := va_S.rf
  have hP : va_P (dC, dI) vwCl [(a0, .inr (7, [.int 0, .ref m1, .int 0, .int (-1), .int 0, .int 0, .int 0, .ref m2, .int 0, .int 0, .ref m3, .ref m4, .ref m5, .ref m6, .ref m7, .ref m8, .ref m9, .int 0, .ref m10, .ref m11, .ref m12, .int 0, .ref m13, .ref m14, .ref m15, .int 0, .ref m16, .int 0, .int 0]))] s.heap := hP
  have hl := lv_entry ([.ref a0]) (n := 2) (Nat.le_of_ble_eq_true rfl)
  rw [lg_entry_eq]
  generalize (lg_sl ([.ref a0]) ++ List.replicate (2 - (lg_sl ([.ref a0])).length) Slot.unset).toArray = ls at hl ⊢
  have hl : lv_has ls 2 [(0, .ref a0)] := hl
  refine lv_aload_n hx hb dX7_turn_0 rfl (lv_at hl 0 rfl) ?_
  refine va_get (D := (dC, dI)) (ci := 7) (v := .int 0) (C := RX7) (T := TX7) (N := 29) hx hb hts inAll_7 hown hK hP 0 rfl rfl 25 (by decide) (hts (.fieldLink RX7 223 "LoopEnvelopesModel" "answered" "I") k_176) (fun _ h9 => h9) rfl dX7_turn_1 ?_
  refine lv_sipush (v := 1200) hx hb dX7_turn_4 (by decide) ?_
  refine lv_icmp_le (tgt := 13) hx hb dX7_turn_7 (by decide) (fun c_7 => ?_) (fun c_7 => absurd (by decide) c_7)
  refine lv_aload_n hx hb dX7_turn_13 rfl (lv_at hl 0 rfl) ?_
  refine va_get (D := (dC, dI)) (ci := 7) (v := .int 0) (C := RX7) (T := TX7) (N := 29) hx hb hts inAll_7 hown hK hP 0 rfl rfl 25 (by decide) (hts (.fieldLink RX7 223 "LoopEnvelopesModel" "answered" "I") k_176) (fun _ h9 => h9) rfl dX7_turn_14 ?_
  refine lv_if_ne (tgt := 23) hx hb dX7_turn_17 (by decide) (fun c_17 => absurd (rfl) c_17) (fun c_17 => ?_)
  refine lv_bipush (v := (-4)) hx hb dX7_turn_20 (by decide) ?_
  have hP9 := hP.sub (ws' := []) [] rfl
  have hD9 := hD.sub (ws' := []) [] (by decide) rfl
  have hK9 := hK.sub (tys' := []) [] rfl
  exact W.iret (v := (-4)) hx hb hr (fun t ht hW => ⟨⟨(-4), (), rfl, rfl, by rw [ht]; exact hP9, va_K.moved hW.alike hK9, hD9⟩, hS.F ht⟩) hS.2.2 dX7_turn_22

set_option maxHeartbeats 4000000 in
set_option maxRecDepth 100000 in
theorem c_X7_isOpening (l : Launch) (dC : Nat → ClassId) (dI : Nat → Nat → Nat) (sz : Nat) (a0 : Nat) (m1 : Nat) (m2 : Nat) (m3 : Nat) (m4 : Nat) (m5 : Nat) (m6 : Nat) (m7 : Nat) (m8 : Nat) (m9 : Nat) (m10 : Nat) (m11 : Nat) (m12 : Nat) (m13 : Nat) (m14 : Nat) (m15 : Nat) (m16 : Nat) : Met l yX7_isOpening pwX7_isOpening ({ frames := 0, cells := 0, slots := 0, locals := 0 } : Room) (va_Pc [.ref a0] (fun U => U.heap.size = sz ∧ va_P (dC, dI) vwCl [(a0, .inr (7, [.int 0, .ref m1, .int 0, .int (-1), .int 0, .int 0, .int 0, .ref m2, .int 0, .int 0, .ref m3, .ref m4, .ref m5, .ref m6, .ref m7, .ref m8, .ref m9, .int 0, .ref m10, .ref m11, .ref m12, .int 0, .ref m13, .ref m14, .ref m15, .int 0, .ref m16, .int 0, .int 0]))] U.heap ∧ va_K (dC, dI) vwCl [] U ∧ va_D (fun _ => True) [(a0, .inr (7, [.int 0, .ref m1, .int 0, .int (-1), .int 0, .int 0, .int 0, .ref m2, .int 0, .int 0, .ref m3, .ref m4, .ref m5, .ref m6, .ref m7, .ref m8, .ref m9, .int 0, .ref m10, .ref m11, .ref m12, .int 0, .ref m13, .ref m14, .ref m15, .int 0, .ref m16, .int 0, .int 0]))])) (va_Qi (fun (r : Int32) (_ : Unit) => r = 0) (fun (_ : Unit) (t : State) => va_P (dC, dI) vwCl [(a0, .inr (7, [.int 0, .ref m1, .int 0, .int (-1), .int 0, .int 0, .int 0, .ref m2, .int 0, .int 0, .ref m3, .ref m4, .ref m5, .ref m6, .ref m7, .ref m8, .ref m9, .int 0, .ref m10, .ref m11, .ref m12, .int 0, .ref m13, .ref m14, .ref m15, .int 0, .ref m16, .int 0, .int 0]))] t.heap ∧ va_K (dC, dI) vwCl [] t ∧ va_D (va_A [(a0, .inr (7, [.int 0, .ref m1, .int 0, .int (-1), .int 0, .int 0, .int 0, .ref m2, .int 0, .int 0, .ref m3, .ref m4, .ref m5, .ref m6, .ref m7, .ref m8, .ref m9, .int 0, .ref m10, .ref m11, .ref m12, .int 0, .ref m13, .ref m14, .ref m15, .int 0, .ref m16, .int 0, .int 0]))] sz) [(a0, .inr (7, [.int 0, .ref m1, .int 0, .int (-1), .int 0, .int 0, .int 0, .ref m2, .int 0, .int 0, .ref m3, .ref m4, .ref m5, .ref m6, .ref m7, .ref m8, .ref m9, .int 0, .ref m10, .ref m11, .ref m12, .int 0, .ref m13, .ref m14, .ref m15, .int 0, .ref m16, .int 0, .int 0]))]) (va_A [(a0, .inr (7, [.int 0, .ref m1, .int 0, .int (-1), .int 0, .int 0, .int 0, .ref m2, .int 0, .int 0, .ref m3, .ref m4, .ref m5, .ref m6, .ref m7, .ref m8, .ref m9, .int 0, .ref m10, .ref m11, .ref m12, .int 0, .ref m13, .ref m14, .ref m15, .int 0, .ref m16, .int 0, .int 0]))] sz)) 0 0 (va_A [(a0, .inr (7, [.int 0, .ref m1, .int 0, .int (-1), .int 0, .int 0, .int 0, .ref m2, .int 0, .int 0, .ref m3, .ref m4, .ref m5, .ref m6, .ref m7, .ref m8, .ref m9, .int 0, .ref m10, .ref m11, .ref m12, .int 0, .ref m13, .ref m14, .ref m15, .int 0, .ref m16, .int 0, .int 0]))] sz) := by
  refine Met.ofW (cc := cX7_isOpening) (maxL := 3) (ret := (some .boolean)) (by decide) rfl ?_
  intro p e s m args below meth c s₁ B hml hv
  obtain ⟨rfl, hsz, hP, hK, hD0⟩ := hv
  have hx := B.exec
  have hb := B.bytes
  have hr := B.returns
  have hts0 := atoms_spec (ws := pwX7_isOpening) B.pre
  have hts := fun w (h : w ∈ pwAll) => hts0 w (List.mem_cons_of_mem _ h)
  have hown : s.vm.findClass RX7 = some m.cls := findClass_of_methodNamed B.named
  have hlocks := B.notSynchronized
  subst hsz
  have hD := hD0.self (sz := s.heap.size)
  generalize hAe : va_A [(a0, .inr (7, [.int 0, .ref m1, .int 0, .int (-1), .int 0, .int 0, .int 0, .ref m2, .int 0, .int 0, .ref m3, .ref m4, .ref m5, .ref m6, .ref m7, .ref m8, .ref m9, .int 0, .ref m10, .ref m11, .ref m12, .int 0, .ref m13, .ref m14, .ref m15, .int 0, .ref m16, .int 0, .int 0]))] s.heap.size = A at hD ⊢
  have hA : ∀ q : Nat, s.heap.size ≤ q → A q := fun q h => by rw [← hAe]; exact Or.inr h
  have hS : va_S A s.heap s.heap [] := va_S.rf
  have hP : va_P (dC, dI) vwCl [(a0, .inr (7, [.int 0, .ref m1, .int 0, .int (-1), .int 0, .int 0, .int 0, .ref m2, .int 0, .int 0, .ref m3, .ref m4, .ref m5, .ref m6, .ref m7, .ref m8, .ref m9, .int 0, .ref m10, .ref m11, .ref m12, .int 0, .ref m13, .ref m14, .ref m15, .int 0, .ref m16, .int 0, .int 0]))] s.heap := hP
  have hl := lv_entry ([.ref a0]) (n := 3) (Nat.le_of_ble_eq_true rfl)
  rw [lg_entry_eq]
  generalize (lg_sl ([.ref a0]) ++ List.replicate (3 - (lg_sl ([.ref a0])).length) Slot.unset).toArray = ls at hl ⊢
  have hl : lv_has ls 3 [(0, .ref a0)] := hl
  refine lv_aload_n hx hb dX7_isOpening_0 rfl (lv_at hl 0 rfl) ?_
  refine va_get (D := (dC, dI)) (ci := 7) (v := .int 0) (C := RX7) (T := TX7) (N := 29) hx hb hts inAll_7 hown hK hP 0 rfl rfl 0 (by decide) (hts (.fieldLink RX7 67 "LoopEnvelopesModel" "size" "I") k_171) (fun _ h9 => h9) rfl dX7_isOpening_1 ?_
  refine lv_bipush (v := 16) hx hb dX7_isOpening_4 (by decide) ?_
  refine lv_icmp_lt (tgt := 46) hx hb dX7_isOpening_6 (by decide) (fun c_6 => ?_) (fun c_6 => absurd (by decide) c_6)
  refine lv_iconst (v := 0) hx hb dX7_isOpening_46 (by decide) ?_
  refine lv_istore_n (lv' := [(1, .int 0), (0, .ref a0)]) hx hb dX7_isOpening_47 rfl hl (by decide) rfl (fun ls hl => ?_)
  refine lv_iconst (v := 4) hx hb dX7_isOpening_48 (by decide) ?_
  refine lv_istore_n (lv' := [(2, .int 4), (1, .int 0), (0, .ref a0)]) hx hb dX7_isOpening_49 rfl hl (by decide) rfl (fun ls hl => ?_)
  refine lv_iload_n hx hb dX7_isOpening_50 rfl (lv_at hl 0 rfl) ?_
  refine lv_bipush (v := 13) hx hb dX7_isOpening_51 (by decide) ?_
  refine lv_icmp_ge (tgt := 76) hx hb dX7_isOpening_53 (by decide) (fun c_53 => absurd c_53 (by decide)) (fun c_53 => ?_)
  refine lv_iload_n hx hb dX7_isOpening_56 rfl (lv_at hl 1 rfl) ?_
  refine lv_if_eq (tgt := 76) hx hb dX7_isOpening_57 (by decide) (fun c_57 => ?_) (fun c_57 => absurd (rfl) c_57)
  refine lv_iload_n hx hb dX7_isOpening_76 rfl (lv_at hl 1 rfl) ?_
  refine lv_if_eq (tgt := 187) hx hb dX7_isOpening_77 (by decide) (fun c_77 => ?_) (fun c_77 => absurd (rfl) c_77)
  refine lv_iconst (v := 0) hx hb dX7_isOpening_187 (by decide) ?_
  have hP9 := hP.sub (ws' := [(a0, .inr (7, [.int 0, .ref m1, .int 0, .int (-1), .int 0, .int 0, .int 0, .ref m2, .int 0, .int 0, .ref m3, .ref m4, .ref m5, .ref m6, .ref m7, .ref m8, .ref m9, .int 0, .ref m10, .ref m11, .ref m12, .int 0, .ref m13, .ref m14, .ref m15, .int 0, .ref m16, .int 0, .int 0]))]) [0] rfl
  have hD9 := hD.sub (ws' := [(a0, .inr (7, [.int 0, .ref m1, .int 0, .int (-1), .int 0, .int 0, .int 0, .ref m2, .int 0, .int 0, .ref m3, .ref m4, .ref m5, .ref m6, .ref m7, .ref m8, .ref m9, .int 0, .ref m10, .ref m11, .ref m12, .int 0, .ref m13, .ref m14, .ref m15, .int 0, .ref m16, .int 0, .int 0]))]) [0] (by decide) rfl
  have hK9 := hK.sub (tys' := []) [] rfl
  exact W.zret (v := 0) hx hb hr rfl (fun t ht hW => ⟨⟨0, (), rfl, rfl, by rw [ht]; exact hP9, va_K.moved hW.alike hK9, hD9⟩, hS.F ht⟩) hS.2.2 dX7_isOpening_188

set_option maxHeartbeats 4000000 in
set_option maxRecDepth 100000 in
theorem c_X7_found (l : Launch) (dC : Nat → ClassId) (dI : Nat → Nat → Nat) (sz : Nat) (a0 : Nat) (m1 : Nat) (m2 : Nat) (m3 : Nat) (m4 : Nat) (m5 : Nat) (m6 : Nat) (m7 : Nat) (m8 : Nat) (m9 : Nat) (m10 : Nat) (m11 : Nat) (m12 : Nat) (m13 : Nat) (m14 : Nat) (m15 : Nat) (m16 : Nat) (fi : Int32) (pl : Int32) : Met l yX7_found pwX7_found ({ frames := 0, cells := 0, slots := 0, locals := 0 } : Room) (va_Pc [.ref a0, .int fi, .int pl] (fun U => U.heap.size = sz ∧ va_P (dC, dI) vwCl [(a0, .inr (7, [.int 0, .ref m1, .int 0, .int (-1), .int 0, .int 0, .int 0, .ref m2, .int 0, .int 0, .ref m3, .ref m4, .ref m5, .ref m6, .ref m7, .ref m8, .ref m9, .int 0, .ref m10, .ref m11, .ref m12, .int 0, .ref m13, .ref m14, .ref m15, .int 0, .ref m16, .int 0, .int 0]))] U.heap ∧ va_K (dC, dI) vwCl [] U ∧ va_D (fun _ => True) [(a0, .inr (7, [.int 0, .ref m1, .int 0, .int (-1), .int 0, .int 0, .int 0, .ref m2, .int 0, .int 0, .ref m3, .ref m4, .ref m5, .ref m6, .ref m7, .ref m8, .ref m9, .int 0, .ref m10, .ref m11, .ref m12, .int 0, .ref m13, .ref m14, .ref m15, .int 0, .ref m16, .int 0, .int 0]))])) (va_Qi (fun (r : Int32) (_ : Unit) => r = fi) (fun (_ : Unit) (t : State) => va_P (dC, dI) vwCl [] t.heap ∧ va_K (dC, dI) vwCl [] t ∧ va_D (va_A [(a0, .inr (7, [.int 0, .ref m1, .int 0, .int (-1), .int 0, .int 0, .int 0, .ref m2, .int 0, .int 0, .ref m3, .ref m4, .ref m5, .ref m6, .ref m7, .ref m8, .ref m9, .int 0, .ref m10, .ref m11, .ref m12, .int 0, .ref m13, .ref m14, .ref m15, .int 0, .ref m16, .int 0, .int 0]))] sz) []) (va_A [(a0, .inr (7, [.int 0, .ref m1, .int 0, .int (-1), .int 0, .int 0, .int 0, .ref m2, .int 0, .int 0, .ref m3, .ref m4, .ref m5, .ref m6, .ref m7, .ref m8, .ref m9, .int 0, .ref m10, .ref m11, .ref m12, .int 0, .ref m13, .ref m14, .ref m15, .int 0, .ref m16, .int 0, .int 0]))] sz)) 0 0 (va_A [(a0, .inr (7, [.int 0, .ref m1, .int 0, .int (-1), .int 0, .int 0, .int 0, .ref m2, .int 0, .int 0, .ref m3, .ref m4, .ref m5, .ref m6, .ref m7, .ref m8, .ref m9, .int 0, .ref m10, .ref m11, .ref m12, .int 0, .ref m13, .ref m14, .ref m15, .int 0, .ref m16, .int 0, .int 0]))] sz) := by
  refine Met.ofW (cc := cX7_found) (maxL := 3) (ret := (some .int)) (by decide) rfl ?_
  intro p e s m args below meth c s₁ B hml hv
  obtain ⟨rfl, hsz, hP, hK, hD0⟩ := hv
  have hx := B.exec
  have hb := B.bytes
  have hr := B.returns
  have hts0 := atoms_spec (ws := pwX7_found) B.pre
  have hts := fun w (h : w ∈ pwAll) => hts0 w (List.mem_cons_of_mem _ h)
  have hown : s.vm.findClass RX7 = some m.cls := findClass_of_methodNamed B.named
  have hlocks := B.notSynchronized
  subst hsz
  have hD := hD0.self (sz := s.heap.size)
  generalize hAe : va_A [(a0, .inr (7, [.int 0, .ref m1, .int 0, .int (-1), .int 0, .int 0, .int 0, .ref m2, .int 0, .int 0, .ref m3, .ref m4, .ref m5, .ref m6, .ref m7, .ref m8, .ref m9, .int 0, .ref m10, .ref m11, .ref m12, .int 0, .ref m13, .ref m14, .ref m15, .int 0, .ref m16, .int 0, .int 0]))] s.heap.size = A at hD ⊢
  have hA : ∀ q : Nat, s.heap.size ≤ q → A q := fun q h => by rw [← hAe]; exact Or.inr h
  have hS : va_S A s.heap s.heap [] := va_S.rf
  have hP : va_P (dC, dI) vwCl [(a0, .inr (7, [.int 0, .ref m1, .int 0, .int (-1), .int 0, .int 0, .int 0, .ref m2, .int 0, .int 0, .ref m3, .ref m4, .ref m5, .ref m6, .ref m7, .ref m8, .ref m9, .int 0, .ref m10, .ref m11, .ref m12, .int 0, .ref m13, .ref m14, .ref m15, .int 0, .ref m16, .int 0, .int 0]))] s.heap := hP
  have hl := lv_entry ([.ref a0, .int fi, .int pl]) (n := 3) (Nat.le_of_ble_eq_true rfl)
  rw [lg_entry_eq]
  generalize (lg_sl ([.ref a0, .int fi, .int pl]) ++ List.replicate (3 - (lg_sl ([.ref a0, .int fi, .int pl])).length) Slot.unset).toArray = ls at hl ⊢
  have hl : lv_has ls 3 [(0, .ref a0), (1, .int fi), (2, .int pl)] := hl
  refine lv_aload_n hx hb dX7_found_0 rfl (lv_at hl 0 rfl) ?_
  refine lv_iconst (v := 0) hx hb dX7_found_1 (by decide) ?_
  refine va_put (D := (dC, dI)) (ci := 7) (v := .int 0) (ty := .boolean) (C := RX7) (T := TX7) (N := 29) hx hb hts inAll_7 tyX7 tyX7_ok nmX7 hown hK hP hD hS 0 rfl rfl 2 (by decide) (hts (.fieldLink RX7 119 "LoopEnvelopesModel" "isTaken" "Z") k_170) (fun _ h9 => h9) rfl (by decide +kernel) rfl rfl (Nat.le_of_ble_eq_true rfl) dX7_found_2 (fun H locs hP hD hS => ?_)
  have hP : va_P (dC, dI) vwCl [(a0, .inr (7, [.int 0, .ref m1, .int 0, .int (-1), .int 0, .int 0, .int 0, .ref m2, .int 0, .int 0, .ref m3, .ref m4, .ref m5, .ref m6, .ref m7, .ref m8, .ref m9, .int 0, .ref m10, .ref m11, .ref m12, .int 0, .ref m13, .ref m14, .ref m15, .int 0, .ref m16, .int 0, .int 0]))] H := hP
  have hD : va_D A [(a0, .inr (7, [.int 0, .ref m1, .int 0, .int (-1), .int 0, .int 0, .int 0, .ref m2, .int 0, .int 0, .ref m3, .ref m4, .ref m5, .ref m6, .ref m7, .ref m8, .ref m9, .int 0, .ref m10, .ref m11, .ref m12, .int 0, .ref m13, .ref m14, .ref m15, .int 0, .ref m16, .int 0, .int 0]))] := hD
  refine lv_aload_n hx hb dX7_found_5 rfl (lv_at hl 0 rfl) ?_
  refine lv_iload_n hx hb dX7_found_6 rfl (lv_at hl 2 rfl) ?_
  refine va_put (D := (dC, dI)) (ci := 7) (v := .int pl) (ty := .int) (C := RX7) (T := TX7) (N := 29) hx hb hts inAll_7 tyX7 tyX7_ok nmX7 hown hK hP hD hS 0 rfl rfl 3 (by decide) (hts (.fieldLink RX7 13 "LoopEnvelopesModel" "where" "I") k_153) (fun _ h9 => h9) rfl (by decide +kernel) rfl rfl (Nat.le_of_ble_eq_true rfl) dX7_found_7 (fun H locs hP hD hS => ?_)
  have hP : va_P (dC, dI) vwCl [(a0, .inr (7, [.int 0, .ref m1, .int 0, .int pl, .int 0, .int 0, .int 0, .ref m2, .int 0, .int 0, .ref m3, .ref m4, .ref m5, .ref m6, .ref m7, .ref m8, .ref m9, .int 0, .ref m10, .ref m11, .ref m12, .int 0, .ref m13, .ref m14, .ref m15, .int 0, .ref m16, .int 0, .int 0]))] H := hP
  have hD : va_D A [(a0, .inr (7, [.int 0, .ref m1, .int 0, .int pl, .int 0, .int 0, .int 0, .ref m2, .int 0, .int 0, .ref m3, .ref m4, .ref m5, .ref m6, .ref m7, .ref m8, .ref m9, .int 0, .ref m10, .ref m11, .ref m12, .int 0, .ref m13, .ref m14, .ref m15, .int 0, .ref m16, .int 0, .int 0]))] := hD
  refine lv_iload_n hx hb dX7_found_10 rfl (lv_at hl 1 rfl) ?_
  have hP9 := hP.sub (ws' := []) [] rfl
  have hD9 := hD.sub (ws' := []) [] (by decide) rfl
  have hK9 := hK.sub (tys' := []) [] rfl
  exact W.iret (v := fi) hx hb hr (fun t ht hW => ⟨⟨fi, (), rfl, rfl, by rw [ht]; exact hP9, va_K.moved hW.alike hK9, hD9⟩, hS.F ht⟩) hS.2.2 dX7_found_11

set_option maxHeartbeats 4000000 in
set_option maxRecDepth 100000 in
theorem c_X7_read (l : Launch) (dC : Nat → ClassId) (dI : Nat → Nat → Nat) (sz : Nat) (a0 : Nat) (m1 : Nat) (m2 : Nat) (m3 : Nat) (m4 : Nat) (m5 : Nat) (m6 : Nat) (m7 : Nat) (m8 : Nat) (m9 : Nat) (m10 : Nat) (m11 : Nat) (m12 : Nat) (m13 : Nat) (m14 : Nat) (m15 : Nat) (m16 : Nat) : Met l yX7_read pwX7_read ({ frames := 1, cells := 0, slots := 0, locals := 22 } : Room) (va_Pc [.ref a0] (fun U => U.heap.size = sz ∧ va_P (dC, dI) vwCl [(a0, .inr (7, [.int 0, .ref m1, .int 0, .int (-1), .int 0, .int 0, .int 0, .ref m2, .int 0, .int 0, .ref m3, .ref m4, .ref m5, .ref m6, .ref m7, .ref m8, .ref m9, .int 0, .ref m10, .ref m11, .ref m12, .int 0, .ref m13, .ref m14, .ref m15, .int 0, .ref m16, .int 0, .int 0]))] U.heap ∧ va_K (dC, dI) vwCl [] U ∧ va_D (fun _ => True) [(a0, .inr (7, [.int 0, .ref m1, .int 0, .int (-1), .int 0, .int 0, .int 0, .ref m2, .int 0, .int 0, .ref m3, .ref m4, .ref m5, .ref m6, .ref m7, .ref m8, .ref m9, .int 0, .ref m10, .ref m11, .ref m12, .int 0, .ref m13, .ref m14, .ref m15, .int 0, .ref m16, .int 0, .int 0]))])) (va_Qi (fun (r : Int32) (_ : Unit) => r = 1) (fun (_ : Unit) (t : State) => va_P (dC, dI) vwCl [] t.heap ∧ va_K (dC, dI) vwCl [] t ∧ va_D (va_A [(a0, .inr (7, [.int 0, .ref m1, .int 0, .int (-1), .int 0, .int 0, .int 0, .ref m2, .int 0, .int 0, .ref m3, .ref m4, .ref m5, .ref m6, .ref m7, .ref m8, .ref m9, .int 0, .ref m10, .ref m11, .ref m12, .int 0, .ref m13, .ref m14, .ref m15, .int 0, .ref m16, .int 0, .int 0]))] sz) []) (va_A [(a0, .inr (7, [.int 0, .ref m1, .int 0, .int (-1), .int 0, .int 0, .int 0, .ref m2, .int 0, .int 0, .ref m3, .ref m4, .ref m5, .ref m6, .ref m7, .ref m8, .ref m9, .int 0, .ref m10, .ref m11, .ref m12, .int 0, .ref m13, .ref m14, .ref m15, .int 0, .ref m16, .int 0, .int 0]))] sz)) 0 0 (va_A [(a0, .inr (7, [.int 0, .ref m1, .int 0, .int (-1), .int 0, .int 0, .int 0, .ref m2, .int 0, .int 0, .ref m3, .ref m4, .ref m5, .ref m6, .ref m7, .ref m8, .ref m9, .int 0, .ref m10, .ref m11, .ref m12, .int 0, .ref m13, .ref m14, .ref m15, .int 0, .ref m16, .int 0, .int 0]))] sz) := by
  refine Met.ofW (cc := cX7_read) (maxL := 5) (ret := (some .int)) (by decide) rfl ?_
  intro p e s m args below meth c s₁ B hml hv
  obtain ⟨rfl, hsz, hP, hK, hD0⟩ := hv
  have hx := B.exec
  have hb := B.bytes
  have hr := B.returns
  have hts0 := atoms_spec (ws := pwX7_read) B.pre
  have hts := fun w (h : w ∈ pwAll) => hts0 w (List.mem_cons_of_mem _ h)
  have hown : s.vm.findClass RX7 = some m.cls := findClass_of_methodNamed B.named
  have hlocks := B.notSynchronized
  subst hsz
  have hD := hD0.self (sz := s.heap.size)
  generalize hAe : va_A [(a0, .inr (7, [.int 0, .ref m1, .int 0, .int (-1), .int 0, .int 0, .int 0, .ref m2, .int 0, .int 0, .ref m3, .ref m4, .ref m5, .ref m6, .ref m7, .ref m8, .ref m9, .int 0, .ref m10, .ref m11, .ref m12, .int 0, .ref m13, .ref m14, .ref m15, .int 0, .ref m16, .int 0, .int 0]))] s.heap.size = A at hD ⊢
  have hA : ∀ q : Nat, s.heap.size ≤ q → A q := fun q h => by rw [← hAe]; exact Or.inr h
  have hS : va_S A s.heap s.heap [] := va_S.rf
  have hP : va_P (dC, dI) vwCl [(a0, .inr (7, [.int 0, .ref m1, .int 0, .int (-1), .int 0, .int 0, .int 0, .ref m2, .int 0, .int 0, .ref m3, .ref m4, .ref m5, .ref m6, .ref m7, .ref m8, .ref m9, .int 0, .ref m10, .ref m11, .ref m12, .int 0, .ref m13, .ref m14, .ref m15, .int 0, .ref m16, .int 0, .int 0]))] s.heap := hP
  have hl := lv_entry ([.ref a0]) (n := 5) (Nat.le_of_ble_eq_true rfl)
  rw [lg_entry_eq]
  generalize (lg_sl ([.ref a0]) ++ List.replicate (5 - (lg_sl ([.ref a0])).length) Slot.unset).toArray = ls at hl ⊢
  have hl : lv_has ls 5 [(0, .ref a0)] := hl
  refine lv_aload_n hx hb dX7_read_0 rfl (lv_at hl 0 rfl) ?_
  have hPc := hP.sub (ws' := [(a0, .inr (7, [.int 0, .ref m1, .int 0, .int (-1), .int 0, .int 0, .int 0, .ref m2, .int 0, .int 0, .ref m3, .ref m4, .ref m5, .ref m6, .ref m7, .ref m8, .ref m9, .int 0, .ref m10, .ref m11, .ref m12, .int 0, .ref m13, .ref m14, .ref m15, .int 0, .ref m16, .int 0, .int 0]))]) [0] rfl
  have hDc := hD.sub (ws' := [(a0, .inr (7, [.int 0, .ref m1, .int 0, .int (-1), .int 0, .int 0, .int 0, .ref m2, .int 0, .int 0, .ref m3, .ref m4, .ref m5, .ref m6, .ref m7, .ref m8, .ref m9, .int 0, .ref m10, .ref m11, .ref m12, .int 0, .ref m13, .ref m14, .ref m15, .int 0, .ref m16, .int 0, .int 0]))]) [0] (by decide) rfl
  have hKc := hK.sub (tys' := []) [] rfl
  have hFc := va_free (wc := [(a0, .inr (7, [.int 0, .ref m1, .int 0, .int (-1), .int 0, .int 0, .int 0, .ref m2, .int 0, .int 0, .ref m3, .ref m4, .ref m5, .ref m6, .ref m7, .ref m8, .ref m9, .int 0, .ref m10, .ref m11, .ref m12, .int 0, .ref m13, .ref m14, .ref m15, .int 0, .ref m16, .int 0, .int 0]))]) hD hS hA [0] rfl
  refine va_calli (va_runV (As := []) (rest := []) ⟨hx, hb, hml, hown, hts⟩ (c_X7_isOpening l dC dI s.heap.size a0 m1 m2 m3 m4 m5 m6 m7 m8 m9 m10 m11 m12 m13 m14 m15 m16) (cwV 0 hts gg_RX7_147 rfl rfl rfl (by decide +kernel) ⟨Nat.le_of_ble_eq_true rfl, Nat.le_of_ble_eq_true rfl⟩) ⟨fun a U g mk q => by obtain ⟨q0, q1, qP, qK, qD⟩ := q; exact ⟨q0, q1, qP, va_K.moved (u := U) (U := U.calling g mk a) (Vm.Alike.refl U.vm) qK, qD⟩, va_recv hK hP (ci := 7) (q0 := 0) rfl rfl, fun U hU hW => ⟨rfl, by rw [hU], by rw [hU]; exact hPc, va_K.moved hW.alike hKc, hDc.weaken (fun _ _ _ _ => trivial)⟩⟩ rfl rfl hl.1 rfl (lv_room (Nat.le_of_ble_eq_true rfl)) dX7_read_1 ⟨Nat.le_of_ble_eq_true rfl, Nat.le_of_ble_eq_true rfl⟩) hS (fun q _ h => hFc q h) hFc (fun r1 u t H1 locs ht hvm hw hB hz1 hk1 hS => ?_)
  obtain ⟨hP1, hK1, hD1⟩ := hB
  rw [ht] at hP1
  have hK1 := va_K.moved hvm.symm hK1
  obtain ⟨hP, hD⟩ := va_join (wr := []) (w1 := [(a0, .inr (7, [.int 0, .ref m1, .int 0, .int (-1), .int 0, .int 0, .int 0, .ref m2, .int 0, .int 0, .ref m3, .ref m4, .ref m5, .ref m6, .ref m7, .ref m8, .ref m9, .int 0, .ref m10, .ref m11, .ref m12, .int 0, .ref m13, .ref m14, .ref m15, .int 0, .ref m16, .int 0, .int 0]))]) hP hD [0] [] rfl rfl (by decide) (by decide) hk1 hFc hP1 hD1
  have hK := (hK.sub (tys' := []) [] rfl).app hK1
  generalize H1 = H at hP hS ⊢
  have hP : va_P (dC, dI) vwCl [(a0, .inr (7, [.int 0, .ref m1, .int 0, .int (-1), .int 0, .int 0, .int 0, .ref m2, .int 0, .int 0, .ref m3, .ref m4, .ref m5, .ref m6, .ref m7, .ref m8, .ref m9, .int 0, .ref m10, .ref m11, .ref m12, .int 0, .ref m13, .ref m14, .ref m15, .int 0, .ref m16, .int 0, .int 0]))] H := hP
  have hD : va_D A [(a0, .inr (7, [.int 0, .ref m1, .int 0, .int (-1), .int 0, .int 0, .int 0, .ref m2, .int 0, .int 0, .ref m3, .ref m4, .ref m5, .ref m6, .ref m7, .ref m8, .ref m9, .int 0, .ref m10, .ref m11, .ref m12, .int 0, .ref m13, .ref m14, .ref m15, .int 0, .ref m16, .int 0, .int 0]))] := hD
  have hK : va_K (dC, dI) vwCl [] s := hK
  have hw : r1 = 0 := hw
  subst hw
  refine lv_if_ne (tgt := 14) hx hb dX7_read_4 (by decide) (fun c_4 => absurd (rfl) c_4) (fun c_4 => ?_)
  refine lv_aload_n hx hb dX7_read_7 rfl (lv_at hl 0 rfl) ?_
  refine lv_iconst (v := 1) hx hb dX7_read_8 (by decide) ?_
  refine lv_iconst (v := 0) hx hb dX7_read_9 (by decide) ?_
  have hPc := hP.sub (ws' := [(a0, .inr (7, [.int 0, .ref m1, .int 0, .int (-1), .int 0, .int 0, .int 0, .ref m2, .int 0, .int 0, .ref m3, .ref m4, .ref m5, .ref m6, .ref m7, .ref m8, .ref m9, .int 0, .ref m10, .ref m11, .ref m12, .int 0, .ref m13, .ref m14, .ref m15, .int 0, .ref m16, .int 0, .int 0]))]) [0] rfl
  have hDc := hD.sub (ws' := [(a0, .inr (7, [.int 0, .ref m1, .int 0, .int (-1), .int 0, .int 0, .int 0, .ref m2, .int 0, .int 0, .ref m3, .ref m4, .ref m5, .ref m6, .ref m7, .ref m8, .ref m9, .int 0, .ref m10, .ref m11, .ref m12, .int 0, .ref m13, .ref m14, .ref m15, .int 0, .ref m16, .int 0, .int 0]))]) [0] (by decide) rfl
  have hKc := hK.sub (tys' := []) [] rfl
  have hFc := va_free (wc := [(a0, .inr (7, [.int 0, .ref m1, .int 0, .int (-1), .int 0, .int 0, .int 0, .ref m2, .int 0, .int 0, .ref m3, .ref m4, .ref m5, .ref m6, .ref m7, .ref m8, .ref m9, .int 0, .ref m10, .ref m11, .ref m12, .int 0, .ref m13, .ref m14, .ref m15, .int 0, .ref m16, .int 0, .int 0]))]) hD hS hA [0] rfl
  refine va_calli (va_runV (As := [.int 1, .int 0]) (rest := []) ⟨hx, hb, hml, hown, hts⟩ (c_X7_found l dC dI H.size a0 m1 m2 m3 m4 m5 m6 m7 m8 m9 m10 m11 m12 m13 m14 m15 m16 1 0) (cwV 2 hts gg_RX7_151 rfl rfl rfl (by decide +kernel) ⟨Nat.le_of_ble_eq_true rfl, Nat.le_of_ble_eq_true rfl⟩) ⟨fun a U g mk q => by obtain ⟨q0, q1, qP, qK, qD⟩ := q; exact ⟨q0, q1, qP, va_K.moved (u := U) (U := U.calling g mk a) (Vm.Alike.refl U.vm) qK, qD⟩, va_recv hK hP (ci := 7) (q0 := 0) rfl rfl, fun U hU hW => ⟨rfl, by rw [hU], by rw [hU]; exact hPc, va_K.moved hW.alike hKc, hDc.weaken (fun _ _ _ _ => trivial)⟩⟩ rfl rfl hl.1 rfl (lv_room (Nat.le_of_ble_eq_true rfl)) dX7_read_10 ⟨Nat.le_of_ble_eq_true rfl, Nat.le_of_ble_eq_true rfl⟩) hS (fun q _ h => hFc q h) hFc (fun r2 u t H1 locs ht hvm hw hB hz1 hk1 hS => ?_)
  obtain ⟨hP1, hK1, hD1⟩ := hB
  rw [ht] at hP1
  have hK1 := va_K.moved hvm.symm hK1
  obtain ⟨hP, hD⟩ := va_join (wr := []) (w1 := []) hP hD [0] [] rfl rfl (by decide) (by decide) hk1 hFc hP1 hD1
  have hK := (hK.sub (tys' := []) [] rfl).app hK1
  generalize H1 = H at hP hS ⊢
  have hP : va_P (dC, dI) vwCl [] H := hP
  have hD : va_D A [] := hD
  have hK : va_K (dC, dI) vwCl [] s := hK
  have hw : r2 = 1 := hw
  subst hw
  have hP9 := hP.sub (ws' := []) [] rfl
  have hD9 := hD.sub (ws' := []) [] (by decide) rfl
  have hK9 := hK.sub (tys' := []) [] rfl
  exact W.iret (v := 1) hx hb hr (fun t ht hW => ⟨⟨1, (), rfl, rfl, by rw [ht]; exact hP9, va_K.moved hW.alike hK9, hD9⟩, hS.F ht⟩) hS.2.2 dX7_read_13
end
section
set_option maxHeartbeats 4000000 in
set_option maxRecDepth 100000 in
theorem mf_loop {p : Program} {l : Launch} {e : Env} {s : State} {m : MethodId} {args : Array Value} {below : List Frame} {meth : Method} {c : Code} {Q : State → Prop} {dC : Nat → ClassId} {dI : Nat → Nat → Nat} {A : Nat → Prop} {a0 m1 m2 m3 m4 m5 m6 m7 m8 m9 m10 m11 m12 m13 m14 m15 m16 : Nat} {cI : ClassId} {ww : Int64} {k0 : Int32} {n : Nat} (hn : n ≤ 8) (hx : p.tables.exec = Jvm.exec) (hb : c.code = cX7_feed) (hml : c.maxLocals = 5) (hts : ∀ w ∈ pwAll, w.before args s = true) (hown : s.vm.findClass RX7 = some m.cls) (hK : va_K (dC, dI) vwCl [(cI, .int)] s) (hA : ∀ q : Nat, s.heap.size ≤ q → A q)
    (hexit : ∀ (f0 : Nat → Int32) (H : Heap) (locs : List Loc) (ls : Array Slot), va_P (dC, dI) vwCl [(a0, .inr (7, [.int (nI n), .ref m1, .int 0, .int (-1), .int 0, .int 0, .int 0, .ref m2, .int 0, .int 0, .ref m3, .ref m4, .ref m5, .ref m6, .ref m7, .ref m8, .ref m9, .int 0, .ref m10, .ref m11, .ref m12, .int 0, .ref m13, .ref m14, .ref m15, .int 0, .ref m16, .int 0, .int 0])), (m1, .inl (cI, 1200, .inl f0))] H → va_D A [(a0, .inr (7, [.int (nI n), .ref m1, .int 0, .int (-1), .int 0, .int 0, .int 0, .ref m2, .int 0, .int 0, .ref m3, .ref m4, .ref m5, .ref m6, .ref m7, .ref m8, .ref m9, .int 0, .ref m10, .ref m11, .ref m12, .int 0, .ref m13, .ref m14, .ref m15, .int 0, .ref m16, .int 0, .int 0])), (m1, .inl (cI, 1200, .inl f0))] → va_S A s.heap H locs → lv_has ls 5 [(0, .ref a0), (1, .long ww), (3, .int k0)] → W p l e ({ frames := 1, cells := 0, slots := 0, locals := 22 } : Room) s m args below meth c H locs 0 0 Q (F0 m 75 ls [])) :
    ∀ (k j : Nat), j + k = n → ∀ (i : Int32) (f0 : Nat → Int32) (H : Heap) (locs : List Loc) (ls : Array Slot), i = nI k - 1 → va_P (dC, dI) vwCl [(a0, .inr (7, [.int (nI j), .ref m1, .int 0, .int (-1), .int 0, .int 0, .int 0, .ref m2, .int 0, .int 0, .ref m3, .ref m4, .ref m5, .ref m6, .ref m7, .ref m8, .ref m9, .int 0, .ref m10, .ref m11, .ref m12, .int 0, .ref m13, .ref m14, .ref m15, .int 0, .ref m16, .int 0, .int 0])), (m1, .inl (cI, 1200, .inl f0))] H → va_D A [(a0, .inr (7, [.int (nI j), .ref m1, .int 0, .int (-1), .int 0, .int 0, .int 0, .ref m2, .int 0, .int 0, .ref m3, .ref m4, .ref m5, .ref m6, .ref m7, .ref m8, .ref m9, .int 0, .ref m10, .ref m11, .ref m12, .int 0, .ref m13, .ref m14, .ref m15, .int 0, .ref m16, .int 0, .int 0])), (m1, .inl (cI, 1200, .inl f0))] → va_S A s.heap H locs → lv_has ls 5 [(4, .int i), (0, .ref a0), (1, .long ww), (3, .int k0)] → W p l e ({ frames := 1, cells := 0, slots := 0, locals := 22 } : Room) s m args below meth c H locs 0 0 Q (F0 m 33 ls []) := by
  intro k
  induction k with
  | zero =>
    intro j hj i f0 H locs ls ei hP hD hS hl
    have ej : j = n := by omega
    subst ej
    have en : i < 0 := by rw [ei]; decide
    refine lv_iload hx hb dX7_feed_33 (lv_at hl 0 rfl) ?_
    refine lv_if_lt (tgt := 75) hx hb dX7_feed_35 (by decide) (fun c_35 => ?_) (fun c_35 => absurd (en) c_35)
    exact hexit _ _ _ _ hP hD hS (lv_sub hl [1, 2, 3] rfl)
  | succ k ih =>
    intro j hj i f0 H locs ls ei hP hD hS hl
    have ei' : i = nI k := by rw [ei]; exact nI_pred k
    have en : ¬ i < 0 := by rw [ei']; exact nI_pos (by omega)
    have g1 : j < 1200 := by omega
    refine lv_iload hx hb dX7_feed_33 (lv_at hl 0 rfl) ?_
    refine lv_if_lt (tgt := 75) hx hb dX7_feed_35 (by decide) (fun c_35 => absurd c_35 (en)) (fun c_35 => ?_)
    refine lv_aload_n hx hb dX7_feed_38 rfl (lv_at hl 1 rfl) ?_
    refine va_get (D := (dC, dI)) (ci := 7) (v := .ref m1) (C := RX7) (T := TX7) (N := 29) hx hb hts inAll_7 hown hK hP 0 rfl rfl 1 (by decide) (hts (.fieldLink RX7 7 "LoopEnvelopesModel" "text" "[I") k_152) (fun _ h9 => h9) rfl dX7_feed_39 ?_
    refine lv_aload_n hx hb dX7_feed_42 rfl (lv_at hl 1 rfl) ?_
    refine va_get (D := (dC, dI)) (ci := 7) (v := .int (nI j)) (C := RX7) (T := TX7) (N := 29) hx hb hts inAll_7 hown hK hP 0 rfl rfl 0 (by decide) (hts (.fieldLink RX7 67 "LoopEnvelopesModel" "size" "I") k_171) (fun _ h9 => h9) rfl dX7_feed_43 ?_
    refine lv_lload_n hx hb dX7_feed_46 rfl (lv_at hl 2 rfl) ?_
    refine lv_bipush (v := 8) hx hb dX7_feed_47 (by decide) ?_
    refine lv_iload hx hb dX7_feed_49 (lv_at hl 0 rfl) ?_
    refine lv_imul hx hb dX7_feed_51 ?_
    refine lv_lshr hx hb dX7_feed_52 rfl ?_
    refine lv_ldc2 hx hb hown (hts (.constantLong RX7 70 (255)) k_185) dX7_feed_53 ?_
    refine lv_land hx hb dX7_feed_56 ?_
    refine lv_topl (fun w1 ew1 => ?_)
    refine lv_l2i hx hb dX7_feed_57 rfl ?_
    refine lv_topi (fun b2 eb2 => ?_)
    refine va_iast hx hb hK hP hD hS 1 0 rfl rfl (vp_in_nI g1 (by decide)) dX7_feed_58 (fun H locs hP hD hS => ?_)
    have hP : va_P (dC, dI) vwCl [(a0, .inr (7, [.int (nI j), .ref m1, .int 0, .int (-1), .int 0, .int 0, .int 0, .ref m2, .int 0, .int 0, .ref m3, .ref m4, .ref m5, .ref m6, .ref m7, .ref m8, .ref m9, .int 0, .ref m10, .ref m11, .ref m12, .int 0, .ref m13, .ref m14, .ref m15, .int 0, .ref m16, .int 0, .int 0])), (m1, .inl (cI, 1200, .inl (upd f0 (nI j).toNatClampNeg b2)))] H := hP
    have hD : va_D A [(a0, .inr (7, [.int (nI j), .ref m1, .int 0, .int (-1), .int 0, .int 0, .int 0, .ref m2, .int 0, .int 0, .ref m3, .ref m4, .ref m5, .ref m6, .ref m7, .ref m8, .ref m9, .int 0, .ref m10, .ref m11, .ref m12, .int 0, .ref m13, .ref m14, .ref m15, .int 0, .ref m16, .int 0, .int 0])), (m1, .inl (cI, 1200, .inl (upd f0 (nI j).toNatClampNeg b2)))] := hD
    refine lv_aload_n hx hb dX7_feed_59 rfl (lv_at hl 1 rfl) ?_
    refine lv_dup hx hb dX7_feed_60 rfl ?_
    refine va_get (D := (dC, dI)) (ci := 7) (v := .int (nI j)) (C := RX7) (T := TX7) (N := 29) hx hb hts inAll_7 hown hK hP 0 rfl rfl 0 (by decide) (hts (.fieldLink RX7 67 "LoopEnvelopesModel" "size" "I") k_171) (fun _ h9 => h9) rfl dX7_feed_61 ?_
    refine lv_iconst (v := 1) hx hb dX7_feed_64 (by decide) ?_
    refine lv_iadd hx hb dX7_feed_65 ?_
    refine pf_top (y := (nI (j + 1))) (nI_1 j) ?_
    refine va_put (D := (dC, dI)) (ci := 7) (v := .int (nI (j + 1))) (ty := .int) (C := RX7) (T := TX7) (N := 29) hx hb hts inAll_7 tyX7 tyX7_ok nmX7 hown hK hP hD hS 0 rfl rfl 0 (by decide) (hts (.fieldLink RX7 67 "LoopEnvelopesModel" "size" "I") k_171) (fun _ h9 => h9) rfl (by decide +kernel) rfl rfl (Nat.le_of_ble_eq_true rfl) dX7_feed_66 (fun H locs hP hD hS => ?_)
    have hP : va_P (dC, dI) vwCl [(a0, .inr (7, [.int (nI (j + 1)), .ref m1, .int 0, .int (-1), .int 0, .int 0, .int 0, .ref m2, .int 0, .int 0, .ref m3, .ref m4, .ref m5, .ref m6, .ref m7, .ref m8, .ref m9, .int 0, .ref m10, .ref m11, .ref m12, .int 0, .ref m13, .ref m14, .ref m15, .int 0, .ref m16, .int 0, .int 0])), (m1, .inl (cI, 1200, .inl (upd f0 (nI j).toNatClampNeg b2)))] H := hP
    have hD : va_D A [(a0, .inr (7, [.int (nI (j + 1)), .ref m1, .int 0, .int (-1), .int 0, .int 0, .int 0, .ref m2, .int 0, .int 0, .ref m3, .ref m4, .ref m5, .ref m6, .ref m7, .ref m8, .ref m9, .int 0, .ref m10, .ref m11, .ref m12, .int 0, .ref m13, .ref m14, .ref m15, .int 0, .ref m16, .int 0, .int 0])), (m1, .inl (cI, 1200, .inl (upd f0 (nI j).toNatClampNeg b2)))] := hD
    refine lv_iinc (v := (nI k - 1)) (lv' := [(4, .int (nI k - 1)), (0, .ref a0), (1, .long ww), (3, .int k0)]) hx hb dX7_feed_69 hl (k := 0) rfl (by rw [ei']; exact pf_dec (nI k)) (by decide) rfl (fun ls hl => ?_)
    refine lv_goto (tgt := 33) hx hb dX7_feed_72 (by decide) ?_
    exact ih (j + 1) (by omega) _ _ _ _ _ rfl hP hD hS (lv_sub hl [0, 1, 2, 3] rfl)

set_option maxHeartbeats 4000000 in
set_option maxRecDepth 100000 in
theorem c_X7_feed (l : Launch) (dC : Nat → ClassId) (dI : Nat → Nat → Nat) (sz : Nat) (a0 : Nat) (m1 : Nat) (m2 : Nat) (m3 : Nat) (m4 : Nat) (m5 : Nat) (m6 : Nat) (m7 : Nat) (m8 : Nat) (m9 : Nat) (m10 : Nat) (m11 : Nat) (m12 : Nat) (m13 : Nat) (m14 : Nat) (m15 : Nat) (m16 : Nat) (cI : ClassId) (f0 : (Nat → Int32)) (ww : Int64) (k0 : Int32) : Met l yX7_feed pwX7_feed ({ frames := 1, cells := 0, slots := 0, locals := 22 } : Room) (va_Pc [.ref a0, .long ww, .int k0] (fun U => U.heap.size = sz ∧ va_P (dC, dI) vwCl [(a0, .inr (7, [.int 0, .ref m1, .int 0, .int (-1), .int 0, .int 0, .int 0, .ref m2, .int 0, .int 0, .ref m3, .ref m4, .ref m5, .ref m6, .ref m7, .ref m8, .ref m9, .int 0, .ref m10, .ref m11, .ref m12, .int 0, .ref m13, .ref m14, .ref m15, .int 0, .ref m16, .int 0, .int 0])), (m1, .inl (cI, 1200, .inl f0))] U.heap ∧ va_K (dC, dI) vwCl [(cI, .int)] U ∧ va_D (fun _ => True) [(a0, .inr (7, [.int 0, .ref m1, .int 0, .int (-1), .int 0, .int 0, .int 0, .ref m2, .int 0, .int 0, .ref m3, .ref m4, .ref m5, .ref m6, .ref m7, .ref m8, .ref m9, .int 0, .ref m10, .ref m11, .ref m12, .int 0, .ref m13, .ref m14, .ref m15, .int 0, .ref m16, .int 0, .int 0])), (m1, .inl (cI, 1200, .inl f0))])) (va_Qi (fun (r : Int32) (_ : Unit) => r = pf_feed k0) (fun (_ : Unit) (t : State) => va_P (dC, dI) vwCl [] t.heap ∧ va_K (dC, dI) vwCl [] t ∧ va_D (va_A [(a0, .inr (7, [.int 0, .ref m1, .int 0, .int (-1), .int 0, .int 0, .int 0, .ref m2, .int 0, .int 0, .ref m3, .ref m4, .ref m5, .ref m6, .ref m7, .ref m8, .ref m9, .int 0, .ref m10, .ref m11, .ref m12, .int 0, .ref m13, .ref m14, .ref m15, .int 0, .ref m16, .int 0, .int 0])), (m1, .inl (cI, 1200, .inl f0))] sz) []) (va_A [(a0, .inr (7, [.int 0, .ref m1, .int 0, .int (-1), .int 0, .int 0, .int 0, .ref m2, .int 0, .int 0, .ref m3, .ref m4, .ref m5, .ref m6, .ref m7, .ref m8, .ref m9, .int 0, .ref m10, .ref m11, .ref m12, .int 0, .ref m13, .ref m14, .ref m15, .int 0, .ref m16, .int 0, .int 0])), (m1, .inl (cI, 1200, .inl f0))] sz)) 0 0 (va_A [(a0, .inr (7, [.int 0, .ref m1, .int 0, .int (-1), .int 0, .int 0, .int 0, .ref m2, .int 0, .int 0, .ref m3, .ref m4, .ref m5, .ref m6, .ref m7, .ref m8, .ref m9, .int 0, .ref m10, .ref m11, .ref m12, .int 0, .ref m13, .ref m14, .ref m15, .int 0, .ref m16, .int 0, .int 0])), (m1, .inl (cI, 1200, .inl f0))] sz) := by
  refine Met.ofW (cc := cX7_feed) (maxL := 5) (ret := (some .int)) (by decide) rfl ?_
  intro p e s m args below meth c s₁ B hml hv
  obtain ⟨rfl, hsz, hP, hK, hD0⟩ := hv
  have hx := B.exec
  have hb := B.bytes
  have hr := B.returns
  have hts0 := atoms_spec (ws := pwX7_feed) B.pre
  have hts := fun w (h : w ∈ pwAll) => hts0 w (List.mem_cons_of_mem _ h)
  have hown : s.vm.findClass RX7 = some m.cls := findClass_of_methodNamed B.named
  have hlocks := B.notSynchronized
  subst hsz
  have hD := hD0.self (sz := s.heap.size)
  generalize hAe : va_A [(a0, .inr (7, [.int 0, .ref m1, .int 0, .int (-1), .int 0, .int 0, .int 0, .ref m2, .int 0, .int 0, .ref m3, .ref m4, .ref m5, .ref m6, .ref m7, .ref m8, .ref m9, .int 0, .ref m10, .ref m11, .ref m12, .int 0, .ref m13, .ref m14, .ref m15, .int 0, .ref m16, .int 0, .int 0])), (m1, .inl (cI, 1200, .inl f0))] s.heap.size = A at hD ⊢
  have hA : ∀ q : Nat, s.heap.size ≤ q → A q := fun q h => by rw [← hAe]; exact Or.inr h
  have hS : va_S A s.heap s.heap [] := va_S.rf
  have hP : va_P (dC, dI) vwCl [(a0, .inr (7, [.int 0, .ref m1, .int 0, .int (-1), .int 0, .int 0, .int 0, .ref m2, .int 0, .int 0, .ref m3, .ref m4, .ref m5, .ref m6, .ref m7, .ref m8, .ref m9, .int 0, .ref m10, .ref m11, .ref m12, .int 0, .ref m13, .ref m14, .ref m15, .int 0, .ref m16, .int 0, .int 0])), (m1, .inl (cI, 1200, .inl f0))] s.heap := hP
  have hl := lv_entry ([.ref a0, .long ww, .int k0]) (n := 5) (Nat.le_of_ble_eq_true rfl)
  rw [lg_entry_eq]
  generalize (lg_sl ([.ref a0, .long ww, .int k0]) ++ List.replicate (5 - (lg_sl ([.ref a0, .long ww, .int k0])).length) Slot.unset).toArray = ls at hl ⊢
  have hl : lv_has ls 5 [(0, .ref a0), (1, .long ww), (3, .int k0)] := hl
  refine lv_iload_n hx hb dX7_feed_0 rfl (lv_at hl 2 rfl) ?_
  refine lv_iconst (v := 1) hx hb dX7_feed_1 (by decide) ?_
  refine lv_bipush (v := 8) hx hb dX7_feed_2 (by decide) ?_
  have hPc := hP.sub (ws' := []) [] rfl
  have hDc := hD.sub (ws' := []) [] (by decide) rfl
  have hKc := hK.sub (tys' := []) [] rfl
  have hFc := va_free (wc := []) hD hS hA [] rfl
  refine va_calli (va_runS (As := [.int k0, .int 1, .int 8]) (rest := []) ⟨hx, hb, hml, hown, hts⟩ (c_X7_in l dC dI s.heap.size k0 1 8) (va_cwS 3 hts gg_RX7_63 rfl rfl rfl (by decide +kernel) ⟨Nat.le_of_ble_eq_true rfl, Nat.le_of_ble_eq_true rfl⟩) ⟨fun a U g mk q => by obtain ⟨q0, q1, qP, qK, qD⟩ := q; exact ⟨q0, q1, qP, va_K.moved (u := U) (U := U.calling g mk a) (Vm.Alike.refl U.vm) qK, qD⟩, fun U hU hW => ⟨rfl, by rw [hU], by rw [hU]; exact hPc, va_K.moved hW.alike hKc, hDc.weaken (fun _ _ _ _ => trivial)⟩⟩ rfl rfl hl.1 rfl (lv_room (Nat.le_of_ble_eq_true rfl)) dX7_feed_4 ⟨Nat.le_of_ble_eq_true rfl, Nat.le_of_ble_eq_true rfl⟩) hS (fun q _ h => hFc q h) hFc (fun r1 u t H1 locs ht hvm hw hB hz1 hk1 hS => ?_)
  obtain ⟨hP1, hK1, hD1⟩ := hB
  rw [ht] at hP1
  have hK1 := va_K.moved hvm.symm hK1
  obtain ⟨hP, hD⟩ := va_join (wr := [(a0, .inr (7, [.int 0, .ref m1, .int 0, .int (-1), .int 0, .int 0, .int 0, .ref m2, .int 0, .int 0, .ref m3, .ref m4, .ref m5, .ref m6, .ref m7, .ref m8, .ref m9, .int 0, .ref m10, .ref m11, .ref m12, .int 0, .ref m13, .ref m14, .ref m15, .int 0, .ref m16, .int 0, .int 0])), (m1, .inl (cI, 1200, .inl f0))]) (w1 := []) hP hD [] [0, 1] rfl rfl (by decide) (by decide) hk1 hFc hP1 hD1
  have hK := (hK.sub (tys' := [(cI, .int)]) [0] rfl).app hK1
  generalize H1 = H at hP hS ⊢
  have hP : va_P (dC, dI) vwCl [(a0, .inr (7, [.int 0, .ref m1, .int 0, .int (-1), .int 0, .int 0, .int 0, .ref m2, .int 0, .int 0, .ref m3, .ref m4, .ref m5, .ref m6, .ref m7, .ref m8, .ref m9, .int 0, .ref m10, .ref m11, .ref m12, .int 0, .ref m13, .ref m14, .ref m15, .int 0, .ref m16, .int 0, .int 0])), (m1, .inl (cI, 1200, .inl f0))] H := hP
  have hD : va_D A [(a0, .inr (7, [.int 0, .ref m1, .int 0, .int (-1), .int 0, .int 0, .int 0, .ref m2, .int 0, .int 0, .ref m3, .ref m4, .ref m5, .ref m6, .ref m7, .ref m8, .ref m9, .int 0, .ref m10, .ref m11, .ref m12, .int 0, .ref m13, .ref m14, .ref m15, .int 0, .ref m16, .int 0, .int 0])), (m1, .inl (cI, 1200, .inl f0))] := hD
  have hK : va_K (dC, dI) vwCl [(cI, .int)] s := hK
  have hw : r1 = pf_in k0 1 8 := hw
  subst hw
  refine lv_if_ne (tgt := 13) hx hb dX7_feed_7 (by decide) (fun c_7 => ?_) (fun c_7 => ?_)
  · skip
    refine lv_aload_n hx hb dX7_feed_13 rfl (lv_at hl 0 rfl) ?_
    refine va_get (D := (dC, dI)) (ci := 7) (v := .int 0) (C := RX7) (T := TX7) (N := 29) hx hb hts inAll_7 hown hK hP 0 rfl rfl 0 (by decide) (hts (.fieldLink RX7 67 "LoopEnvelopesModel" "size" "I") k_171) (fun _ h9 => h9) rfl dX7_feed_14 ?_
    refine lv_iload_n hx hb dX7_feed_17 rfl (lv_at hl 2 rfl) ?_
    refine lv_iadd hx hb dX7_feed_18 ?_
    refine pf_top (y := k0) (Int32.zero_add k0) ?_
    refine lv_sipush (v := 1200) hx hb dX7_feed_19 (by decide) ?_
    refine lv_icmp_le (tgt := 28) hx hb dX7_feed_22 (by decide) (fun c_22 => ?_) (fun c_22 => absurd (pf_le1200b c_7) c_22)
    refine lv_iload_n hx hb dX7_feed_28 rfl (lv_at hl 2 rfl) ?_
    refine lv_iconst (v := 1) hx hb dX7_feed_29 (by decide) ?_
    refine lv_isub hx hb dX7_feed_30 ?_
    refine lv_istore (lv' := [(4, .int (k0 - 1)), (0, .ref a0), (1, .long ww), (3, .int k0)]) hx hb dX7_feed_31 hl (by decide) rfl (fun ls hl => ?_)
    obtain ⟨n, hn, ek⟩ := pf_small2 c_7
    have hP := hP.sub (ws' := [(a0, .inr (7, [.int 0, .ref m1, .int 0, .int (-1), .int 0, .int 0, .int 0, .ref m2, .int 0, .int 0, .ref m3, .ref m4, .ref m5, .ref m6, .ref m7, .ref m8, .ref m9, .int 0, .ref m10, .ref m11, .ref m12, .int 0, .ref m13, .ref m14, .ref m15, .int 0, .ref m16, .int 0, .int 0])), (m1, .inl (cI, 1200, .inl f0))]) [0, 1] rfl
    have hD := hD.sub (ws' := [(a0, .inr (7, [.int 0, .ref m1, .int 0, .int (-1), .int 0, .int 0, .int 0, .ref m2, .int 0, .int 0, .ref m3, .ref m4, .ref m5, .ref m6, .ref m7, .ref m8, .ref m9, .int 0, .ref m10, .ref m11, .ref m12, .int 0, .ref m13, .ref m14, .ref m15, .int 0, .ref m16, .int 0, .int 0])), (m1, .inl (cI, 1200, .inl f0))]) [0, 1] (by decide) rfl
    refine mf_loop (n := n) (l := l) (dC := dC) (dI := dI) (A := A) (cI := cI) hn hx hb hml hts hown hK hA (fun f0 H locs ls hP hD hS hl => ?_) n 0 (Nat.zero_add n) (k0 - 1) f0 _ _ _ (by rw [ek]) hP hD hS (lv_sub hl [0, 1, 2, 3] rfl)
    refine lv_aload_n hx hb dX7_feed_75 rfl (lv_at hl 0 rfl) ?_
    refine va_get (D := (dC, dI)) (ci := 7) (v := .int (nI n)) (C := RX7) (T := TX7) (N := 29) hx hb hts inAll_7 hown hK hP 0 rfl rfl 0 (by decide) (hts (.fieldLink RX7 67 "LoopEnvelopesModel" "size" "I") k_171) (fun _ h9 => h9) rfl dX7_feed_76 ?_
    have hP9 := hP.sub (ws' := []) [] rfl
    have hD9 := hD.sub (ws' := []) [] (by decide) rfl
    have hK9 := hK.sub (tys' := []) [] rfl
    exact W.iret (v := (nI n)) hx hb hr (fun t ht hW => ⟨⟨(nI n), (), rfl, by rw [pf_feed_in c_7, ek], by rw [ht]; exact hP9, va_K.moved hW.alike hK9, hD9⟩, hS.F ht⟩) hS.2.2 dX7_feed_79
  · skip
    refine lv_bipush (v := (-3)) hx hb dX7_feed_10 (by decide) ?_
    have hP9 := hP.sub (ws' := []) [] rfl
    have hD9 := hD.sub (ws' := []) [] (by decide) rfl
    have hK9 := hK.sub (tys' := []) [] rfl
    exact W.iret (v := (-3)) hx hb hr (fun t ht hW => ⟨⟨(-3), (), rfl, (pf_feed_out c_7).symm, by rw [ht]; exact hP9, va_K.moved hW.alike hK9, hD9⟩, hS.F ht⟩) hS.2.2 dX7_feed_12
end
section
/-! THE CLAIM OUT OF ONE WALK OF THE LAW'S BODY. Your part is whole_start (and what it stands on); all else here is the same for every law, but numbers. -/
def R_law : String := "LoopEnvelopesLaw"
def lw_P (b : Addr) (xs : List Int32) (args : Array Value) (s : State) : Prop := args = #[.ref b] ∧ s.IntsAt b xs ∧ xs.length ≤ 4 ∧ (Jvm.Cond.and given_1 narrow_1).before args s = true
def lw_Q (_ : Array Value) (s : State) (o : Outcome) (t : State) : Prop := o = .returned (some (.int 1)) ∧ Framed s o t [] 600000 7302250
def lw_Z (below : List Frame) (a : Array Value) (s : State) : State → Prop := fun t => ∃ o, t.status = .running ∧ Ended t below o ∧ lw_Q a s o t
/-- the law's own end, with 1 on the stack, nothing written that was there before, its room as the claim has it -/
theorem lw_ret {p : Program} {l : Launch} {e : Env} {s : State} {m : MethodId} {below : List Frame} {meth : Method} {c : Code} {b : Nat} (hx : p.tables.exec = Jvm.exec) (hb : c.code = code) (hr : meth.sig.returnType = ret) (hlocks : meth.locks = false) {pc : Nat} {H : Heap} {ls : Array Slot} (hdg : decode code pc = .ok (.ireturn, 1)) : W p l e room_1 s m #[Value.ref b] below meth c H [] 600000 7302250 (lw_Z below #[Value.ref b] s) (F0 m pc ls [.int 1]) := by
  intro T hT X
  obtain ⟨fs, hret, hrun, hended, hW, hframe⟩ := X.leave (v := some (.int 1)) (hlocks := hlocks) (fun h => by rw [hr] at h; cases h)
  have hmeth' : T.vm.method? m = some meth := X.method'
  refine ⟨T.setFrames fs, ?_, .returned (some (.int 1)), hrun, hended, rfl, ⟨_, rfl⟩, hW, hframe⟩
  jvm_step X.here [X.here.top, hx, hb, hdg, hmeth', hr, ret, narrow_b1]
  (try refine ⟨rfl, ?_⟩); (try refine ⟨rfl, ?_⟩)
  first | (intro acts; rw [hret _ acts rfl rfl rfl]) | rw [hret _ _ rfl rfl rfl]
  exact Steps.refl _
/-- what holds at the law's entry: the machine, the code, the tables' words (any of lw_tbl by 'hts w (by decide +kernel)'), the script of L ints xs at the cell b, what the Statement gives of the start (any of its parts by flat_of_before) -/
def lw_At (p : Program) (s : State) (m : MethodId) (meth : Method) (c : Code) (b L : Nat) (xs : Nat → Int32) : Prop :=
  p.tables.exec = Jvm.exec ∧ c.code = code ∧ meth.sig.returnType = ret ∧ c.maxLocals = 4 ∧ s.vm.findClass R_law = some m.cls ∧ (∀ w ∈ lw_tbl, w.before #[Value.ref b] s = true) ∧ va_X b L xs s s.heap ∧ b < s.heap.size ∧ meth.locks = false ∧ (Jvm.Cond.and given_1 narrow_1).before #[Value.ref b] s = true

theorem pf_i0 : vp_in (0 : Int32) 4 := vp_in_nI (n := 0) (by decide) (by decide)
theorem pf_i1 : vp_in (1 : Int32) 4 := vp_in_nI (n := 1) (by decide) (by decide)
theorem pf_i2 : vp_in (2 : Int32) 4 := vp_in_nI (n := 2) (by decide) (by decide)
theorem pf_i3 : vp_in (3 : Int32) 4 := vp_in_nI (n := 3) (by decide) (by decide)
theorem pf_short {L : Nat} (h : L ≤ 4) (h4 : ¬ L = 4) : Int32.ofNat L - 4 < 0 := by
  rcases (show L = 0 ∨ L = 1 ∨ L = 2 ∨ L = 3 by omega) with rfl | rfl | rfl | rfl <;> decide

set_option maxHeartbeats 4000000 in
set_option maxRecDepth 100000 in
theorem law_end {p : Program} {l : Launch} {e : Env} {s : State} {m : MethodId} {below : List Frame} {meth : Method} {c : Code} {b : Nat} {xs : Nat → Int32} (C0 : lw_At p s m meth c b 4 xs) {H : Heap} {locs : List Loc} (hS : va_S (fun q : Nat => s.heap.size ≤ q) s.heap H locs) {ls : Array Slot} (hl : lv_has ls 4 [(0, .ref b), (3, .int 0)]) : W p l e room_1 s m #[Value.ref b] below meth c H locs 40 14459 (lw_Z below #[Value.ref b] s) (F0 m 600 ls []) := by
  obtain ⟨hx, hb, hr, hml, hown0, hts0, hX, hbl, hlocks, hgv⟩ := id C0
  have hown : s.vm.findClass RL = some m.cls := hown0
  have hts : ∀ w ∈ pwAll, w.before #[Value.ref b] s = true := fun w h => hts0 w (pwAll_in w h)
  have hA : ∀ q : Nat, s.heap.size ≤ q → (fun q : Nat => s.heap.size ≤ q) q := fun _ h => h
  have hbA : ¬ (fun q : Nat => s.heap.size ≤ q) b := Nat.not_le.mpr hbl
  refine lv_iinc (v := 4) (lv' := [(3, .int 4), (0, .ref b)]) hx hb dL_law_600 hl (k := 1) rfl (by decide) (by decide) rfl (fun ls hl => ?_)
  refine lv_goto (tgt := 18) hx hb dL_law_603 (by decide) ?_
  refine lv_iload_n hx hb dL_law_18 rfl (lv_at hl 0 rfl) ?_
  refine lv_aload_n hx hb dL_law_19 rfl (lv_at hl 1 rfl) ?_
  refine va_slen hx hb hX hbl hbA hS dL_law_20 ?_
  refine lv_iconst (v := 4) hx hb dL_law_21 (by decide) ?_
  refine lv_isub hx hb dL_law_22 ?_
  refine pf_top (y := 0) (by decide) ?_
  refine lv_icmp_gt (tgt := 606) hx hb dL_law_23 (by decide) (fun c_23 => ?_) (fun c_23 => absurd (by decide) c_23)
  refine lv_iconst (v := 1) hx hb dL_law_606 (by decide) ?_
  refine va_forget (fun q hq => hS.2.2 q hq) ?_
  refine W.widen (k := 600000) (n := 7302250) (Nat.le_of_ble_eq_true rfl) (Nat.le_of_ble_eq_true rfl) ?_
  exact lw_ret hx hb hr hlocks dL_law_607
end
section
set_option maxHeartbeats 4000000 in
set_option maxRecDepth 100000 in
theorem law_feed {p : Program} {l : Launch} {e : Env} {s : State} {m : MethodId} {below : List Frame} {meth : Method} {c : Code} {b : Nat} {xs : Nat → Int32} (C0 : lw_At p s m meth c b 4 xs) {dC : Nat → ClassId} {dI : Nat → Nat → Nat} {q1 a13 a24 a35 a46 a57 ya8 b29 t110 t211 t312 yb13 h114 h215 h316 h417 b518 yc19 q22 m124 m225 m326 m427 m528 m629 m730 m831 m932 m1033 m1134 m1235 m1336 m1437 m1538 m1639 : Nat} {cA20 cI40 : ClassId} {f021 f041 : Nat → Int32} {H : Heap} {locs : List Loc} (hK : va_K (dC, dI) vwCl [(cA20, .byte), (cI40, .int)] s) (hP : va_P (dC, dI) vwCl [(q1, .inr (6, [.ref a13, .ref a24, .ref a35, .ref a46, .ref a57, .int (-1), .int 0])), (a13, .inr (0, [.ref ya8, .int 0])), (ya8, .inl (cA20, 1200, .inl f021)), (a24, .inr (3, [.ref b29, .ref t110, .ref t211, .ref t312, .int 0])), (b29, .inr (0, [.ref yb13, .int 0])), (a35, .inr (1, [.ref h114, .ref h215, .ref h316, .int 0, .int 0, .int 0])), (a57, .inr (5, [.ref h417, .ref b518, .int 0])), (b518, .inr (0, [.ref yc19, .int 0])), (q22, .inr (7, [.int 0, .ref m124, .int 0, .int (-1), .int 0, .int 0, .int 0, .ref m225, .int 0, .int 0, .ref m326, .ref m427, .ref m528, .ref m629, .ref m730, .ref m831, .ref m932, .int 0, .ref m1033, .ref m1134, .ref m1235, .int 0, .ref m1336, .ref m1437, .ref m1538, .int 0, .ref m1639, .int 0, .int 0])), (m124, .inl (cI40, 1200, .inl f041))] H) (hD : va_D (fun q : Nat => s.heap.size ≤ q) [(q1, .inr (6, [.ref a13, .ref a24, .ref a35, .ref a46, .ref a57, .int (-1), .int 0])), (a13, .inr (0, [.ref ya8, .int 0])), (ya8, .inl (cA20, 1200, .inl f021)), (a24, .inr (3, [.ref b29, .ref t110, .ref t211, .ref t312, .int 0])), (b29, .inr (0, [.ref yb13, .int 0])), (a35, .inr (1, [.ref h114, .ref h215, .ref h316, .int 0, .int 0, .int 0])), (a57, .inr (5, [.ref h417, .ref b518, .int 0])), (b518, .inr (0, [.ref yc19, .int 0])), (q22, .inr (7, [.int 0, .ref m124, .int 0, .int (-1), .int 0, .int 0, .int 0, .ref m225, .int 0, .int 0, .ref m326, .ref m427, .ref m528, .ref m629, .ref m730, .ref m831, .ref m932, .int 0, .ref m1033, .ref m1134, .ref m1235, .int 0, .ref m1336, .ref m1437, .ref m1538, .int 0, .ref m1639, .int 0, .int 0])), (m124, .inl (cI40, 1200, .inl f041))]) (hS : va_S (fun q : Nat => s.heap.size ≤ q) s.heap H locs) {ls : Array Slot} (hl : lv_has ls 4 [(3, .int 0), (2, .ref q22), (1, .ref q1), (0, .ref b)]) : W p l e room_1 s m #[Value.ref b] below meth c H locs 40 14459 (lw_Z below #[Value.ref b] s) (F0 m 112 ls []) := by
  obtain ⟨hx, hb, hr, hml, hown0, hts0, hX, hbl, hlocks, hgv⟩ := id C0
  have hown : s.vm.findClass RL = some m.cls := hown0
  have hts : ∀ w ∈ pwAll, w.before #[Value.ref b] s = true := fun w h => hts0 w (pwAll_in w h)
  have hA : ∀ q : Nat, s.heap.size ≤ q → (fun q : Nat => s.heap.size ≤ q) q := fun _ h => h
  have hbA : ¬ (fun q : Nat => s.heap.size ≤ q) b := Nat.not_le.mpr hbl
  refine lv_aload_n hx hb dL_law_112 rfl (lv_at hl 2 rfl) ?_
  refine lv_aload_n hx hb dL_law_113 rfl (lv_at hl 3 rfl) ?_
  refine lv_iload_n hx hb dL_law_114 rfl (lv_at hl 0 rfl) ?_
  refine lv_iconst (v := 1) hx hb dL_law_115 (by decide) ?_
  refine lv_iadd hx hb dL_law_116 ?_
  refine pf_top (y := 1) (by decide) ?_
  refine va_sld hx hb hX hbl hbA hS pf_i1 dL_law_117 ?_
  refine lv_i2l hx hb dL_law_118 rfl ?_
  refine lv_bipush (v := 32) hx hb dL_law_119 (by decide) ?_
  refine lv_lshl hx hb dL_law_121 rfl ?_
  refine lv_aload_n hx hb dL_law_122 rfl (lv_at hl 3 rfl) ?_
  refine lv_iload_n hx hb dL_law_123 rfl (lv_at hl 0 rfl) ?_
  refine lv_iconst (v := 2) hx hb dL_law_124 (by decide) ?_
  refine lv_iadd hx hb dL_law_125 ?_
  refine pf_top (y := 2) (by decide) ?_
  refine va_sld hx hb hX hbl hbA hS pf_i2 dL_law_126 ?_
  refine lv_i2l hx hb dL_law_127 rfl ?_
  refine lv_ldc2 hx hb hown (hts (.constantLong RL 13 (4294967295)) k_196) dL_law_128 ?_
  refine lv_land hx hb dL_law_131 ?_
  refine lv_topl (fun w1 ew1 => ?_)
  refine lv_lor hx hb dL_law_132 ?_
  refine lv_topl (fun w2 ew2 => ?_)
  refine lv_aload_n hx hb dL_law_133 rfl (lv_at hl 3 rfl) ?_
  refine lv_iload_n hx hb dL_law_134 rfl (lv_at hl 0 rfl) ?_
  refine lv_iconst (v := 3) hx hb dL_law_135 (by decide) ?_
  refine lv_iadd hx hb dL_law_136 ?_
  refine pf_top (y := 3) (by decide) ?_
  refine va_sld hx hb hX hbl hbA hS pf_i3 dL_law_137 ?_
  have hPc := hP.sub (ws' := [(q1, .inr (6, [.ref a13, .ref a24, .ref a35, .ref a46, .ref a57, .int (-1), .int 0])), (a13, .inr (0, [.ref ya8, .int 0])), (ya8, .inl (cA20, 1200, .inl f021))]) [0, 1, 2] rfl
  have hDc := hD.sub (ws' := [(q1, .inr (6, [.ref a13, .ref a24, .ref a35, .ref a46, .ref a57, .int (-1), .int 0])), (a13, .inr (0, [.ref ya8, .int 0])), (ya8, .inl (cA20, 1200, .inl f021))]) [0, 1, 2] (by decide) rfl
  have hKc := hK.sub (tys' := [(cA20, .byte)]) [0] rfl
  have hFc := va_free (wc := [(q1, .inr (6, [.ref a13, .ref a24, .ref a35, .ref a46, .ref a57, .int (-1), .int 0])), (a13, .inr (0, [.ref ya8, .int 0])), (ya8, .inl (cA20, 1200, .inl f021))]) hD hS hA [0, 1, 2] rfl
  refine va_calli (va_runV (As := [.long w2, .int (xs (3 : Int32).toNatClampNeg)]) (rest := []) ⟨hx, hb, hml, hown, hts⟩ (c_X6_feed l dC dI H.size q1 a13 a24 a35 a46 a57 ya8 cA20 f021 w2 (xs (3 : Int32).toNatClampNeg)) (cwV 2 hts gg_RL_15 rfl rfl rfl (by decide +kernel) ⟨Nat.le_of_ble_eq_true rfl, Nat.le_of_ble_eq_true rfl⟩) ⟨fun a U g mk q => by obtain ⟨q0, q1, qP, qK, qD⟩ := q; exact ⟨q0, q1, qP, va_K.moved (u := U) (U := U.calling g mk a) (Vm.Alike.refl U.vm) qK, qD⟩, va_recv hK hP (ci := 6) (q0 := 0) rfl rfl, fun U hU hW => ⟨rfl, by rw [hU], by rw [hU]; exact hPc, va_K.moved hW.alike hKc, hDc.weaken (fun _ _ _ _ => trivial)⟩⟩ rfl rfl hl.1 rfl (lv_room (Nat.le_of_ble_eq_true rfl)) dL_law_138 ⟨Nat.le_of_ble_eq_true rfl, Nat.le_of_ble_eq_true rfl⟩) hS (fun q _ h => hFc q h) hFc (fun r3 u t H1 locs ht hvm hw hB hz1 hk1 hS => ?_)
  obtain ⟨hP1, hK1, hD1⟩ := hB
  rw [ht] at hP1
  have hK1 := va_K.moved hvm.symm hK1
  obtain ⟨hP, hD⟩ := va_join (wr := [(a24, .inr (3, [.ref b29, .ref t110, .ref t211, .ref t312, .int 0])), (b29, .inr (0, [.ref yb13, .int 0])), (a35, .inr (1, [.ref h114, .ref h215, .ref h316, .int 0, .int 0, .int 0])), (a57, .inr (5, [.ref h417, .ref b518, .int 0])), (b518, .inr (0, [.ref yc19, .int 0])), (q22, .inr (7, [.int 0, .ref m124, .int 0, .int (-1), .int 0, .int 0, .int 0, .ref m225, .int 0, .int 0, .ref m326, .ref m427, .ref m528, .ref m629, .ref m730, .ref m831, .ref m932, .int 0, .ref m1033, .ref m1134, .ref m1235, .int 0, .ref m1336, .ref m1437, .ref m1538, .int 0, .ref m1639, .int 0, .int 0])), (m124, .inl (cI40, 1200, .inl f041))]) (w1 := []) hP hD [0, 1, 2] [3, 4, 5, 6, 7, 8, 9] rfl rfl (by decide) (by decide) hk1 hFc hP1 hD1
  have hK := (hK.sub (tys' := [(cI40, .int)]) [1] rfl).app hK1
  generalize H1 = H at hP hS ⊢
  have hP : va_P (dC, dI) vwCl [(a24, .inr (3, [.ref b29, .ref t110, .ref t211, .ref t312, .int 0])), (b29, .inr (0, [.ref yb13, .int 0])), (a35, .inr (1, [.ref h114, .ref h215, .ref h316, .int 0, .int 0, .int 0])), (a57, .inr (5, [.ref h417, .ref b518, .int 0])), (b518, .inr (0, [.ref yc19, .int 0])), (q22, .inr (7, [.int 0, .ref m124, .int 0, .int (-1), .int 0, .int 0, .int 0, .ref m225, .int 0, .int 0, .ref m326, .ref m427, .ref m528, .ref m629, .ref m730, .ref m831, .ref m932, .int 0, .ref m1033, .ref m1134, .ref m1235, .int 0, .ref m1336, .ref m1437, .ref m1538, .int 0, .ref m1639, .int 0, .int 0])), (m124, .inl (cI40, 1200, .inl f041))] H := hP
  have hD : va_D (fun q : Nat => s.heap.size ≤ q) [(a24, .inr (3, [.ref b29, .ref t110, .ref t211, .ref t312, .int 0])), (b29, .inr (0, [.ref yb13, .int 0])), (a35, .inr (1, [.ref h114, .ref h215, .ref h316, .int 0, .int 0, .int 0])), (a57, .inr (5, [.ref h417, .ref b518, .int 0])), (b518, .inr (0, [.ref yc19, .int 0])), (q22, .inr (7, [.int 0, .ref m124, .int 0, .int (-1), .int 0, .int 0, .int 0, .ref m225, .int 0, .int 0, .ref m326, .ref m427, .ref m528, .ref m629, .ref m730, .ref m831, .ref m932, .int 0, .ref m1033, .ref m1134, .ref m1235, .int 0, .ref m1336, .ref m1437, .ref m1538, .int 0, .ref m1639, .int 0, .int 0])), (m124, .inl (cI40, 1200, .inl f041))] := hD
  have hK : va_K (dC, dI) vwCl [(cI40, .int)] s := hK
  have hw : r3 = pf_feed (xs (3 : Int32).toNatClampNeg) := hw
  subst hw
  refine lv_aload_n hx hb dL_law_141 rfl (lv_at hl 1 rfl) ?_
  refine lv_aload_n hx hb dL_law_142 rfl (lv_at hl 3 rfl) ?_
  refine lv_iload_n hx hb dL_law_143 rfl (lv_at hl 0 rfl) ?_
  refine lv_iconst (v := 1) hx hb dL_law_144 (by decide) ?_
  refine lv_iadd hx hb dL_law_145 ?_
  refine pf_top (y := 1) (by decide) ?_
  refine va_sld hx hb hX hbl hbA hS pf_i1 dL_law_146 ?_
  refine lv_i2l hx hb dL_law_147 rfl ?_
  refine lv_bipush (v := 32) hx hb dL_law_148 (by decide) ?_
  refine lv_lshl hx hb dL_law_150 rfl ?_
  refine lv_aload_n hx hb dL_law_151 rfl (lv_at hl 3 rfl) ?_
  refine lv_iload_n hx hb dL_law_152 rfl (lv_at hl 0 rfl) ?_
  refine lv_iconst (v := 2) hx hb dL_law_153 (by decide) ?_
  refine lv_iadd hx hb dL_law_154 ?_
  refine pf_top (y := 2) (by decide) ?_
  refine va_sld hx hb hX hbl hbA hS pf_i2 dL_law_155 ?_
  refine lv_i2l hx hb dL_law_156 rfl ?_
  refine lv_ldc2 hx hb hown (hts (.constantLong RL 13 (4294967295)) k_196) dL_law_157 ?_
  refine lv_land hx hb dL_law_160 ?_
  refine lv_topl (fun w4 ew4 => ?_)
  refine lv_lor hx hb dL_law_161 ?_
  refine lv_topl (fun w5 ew5 => ?_)
  refine lv_aload_n hx hb dL_law_162 rfl (lv_at hl 3 rfl) ?_
  refine lv_iload_n hx hb dL_law_163 rfl (lv_at hl 0 rfl) ?_
  refine lv_iconst (v := 3) hx hb dL_law_164 (by decide) ?_
  refine lv_iadd hx hb dL_law_165 ?_
  refine pf_top (y := 3) (by decide) ?_
  refine va_sld hx hb hX hbl hbA hS pf_i3 dL_law_166 ?_
  have hPc := hP.sub (ws' := [(q22, .inr (7, [.int 0, .ref m124, .int 0, .int (-1), .int 0, .int 0, .int 0, .ref m225, .int 0, .int 0, .ref m326, .ref m427, .ref m528, .ref m629, .ref m730, .ref m831, .ref m932, .int 0, .ref m1033, .ref m1134, .ref m1235, .int 0, .ref m1336, .ref m1437, .ref m1538, .int 0, .ref m1639, .int 0, .int 0])), (m124, .inl (cI40, 1200, .inl f041))]) [5, 6] rfl
  have hDc := hD.sub (ws' := [(q22, .inr (7, [.int 0, .ref m124, .int 0, .int (-1), .int 0, .int 0, .int 0, .ref m225, .int 0, .int 0, .ref m326, .ref m427, .ref m528, .ref m629, .ref m730, .ref m831, .ref m932, .int 0, .ref m1033, .ref m1134, .ref m1235, .int 0, .ref m1336, .ref m1437, .ref m1538, .int 0, .ref m1639, .int 0, .int 0])), (m124, .inl (cI40, 1200, .inl f041))]) [5, 6] (by decide) rfl
  have hKc := hK.sub (tys' := [(cI40, .int)]) [0] rfl
  have hFc := va_free (wc := [(q22, .inr (7, [.int 0, .ref m124, .int 0, .int (-1), .int 0, .int 0, .int 0, .ref m225, .int 0, .int 0, .ref m326, .ref m427, .ref m528, .ref m629, .ref m730, .ref m831, .ref m932, .int 0, .ref m1033, .ref m1134, .ref m1235, .int 0, .ref m1336, .ref m1437, .ref m1538, .int 0, .ref m1639, .int 0, .int 0])), (m124, .inl (cI40, 1200, .inl f041))]) hD hS hA [5, 6] rfl
  refine va_calli (va_runV (As := [.long w5, .int (xs (3 : Int32).toNatClampNeg)]) (rest := [.int (pf_feed (xs (3 : Int32).toNatClampNeg))]) ⟨hx, hb, hml, hown, hts⟩ (c_X7_feed l dC dI H.size q22 m124 m225 m326 m427 m528 m629 m730 m831 m932 m1033 m1134 m1235 m1336 m1437 m1538 m1639 cI40 f041 w5 (xs (3 : Int32).toNatClampNeg)) (cwV 2 hts gg_RL_19 rfl rfl rfl (by decide +kernel) ⟨Nat.le_of_ble_eq_true rfl, Nat.le_of_ble_eq_true rfl⟩) ⟨fun a U g mk q => by obtain ⟨q0, q1, qP, qK, qD⟩ := q; exact ⟨q0, q1, qP, va_K.moved (u := U) (U := U.calling g mk a) (Vm.Alike.refl U.vm) qK, qD⟩, va_recv hK hP (ci := 7) (q0 := 5) rfl rfl, fun U hU hW => ⟨rfl, by rw [hU], by rw [hU]; exact hPc, va_K.moved hW.alike hKc, hDc.weaken (fun _ _ _ _ => trivial)⟩⟩ rfl rfl hl.1 rfl (lv_room (Nat.le_of_ble_eq_true rfl)) dL_law_167 ⟨Nat.le_of_ble_eq_true rfl, Nat.le_of_ble_eq_true rfl⟩) hS (fun q _ h => hFc q h) hFc (fun r6 u t H1 locs ht hvm hw hB hz1 hk1 hS => ?_)
  obtain ⟨hP1, hK1, hD1⟩ := hB
  rw [ht] at hP1
  have hK1 := va_K.moved hvm.symm hK1
  obtain ⟨hP, hD⟩ := va_join (wr := [(a24, .inr (3, [.ref b29, .ref t110, .ref t211, .ref t312, .int 0])), (b29, .inr (0, [.ref yb13, .int 0])), (a35, .inr (1, [.ref h114, .ref h215, .ref h316, .int 0, .int 0, .int 0])), (a57, .inr (5, [.ref h417, .ref b518, .int 0])), (b518, .inr (0, [.ref yc19, .int 0]))]) (w1 := []) hP hD [5, 6] [0, 1, 2, 3, 4] rfl rfl (by decide) (by decide) hk1 hFc hP1 hD1
  have hK := (hK.sub (tys' := []) [] rfl).app hK1
  generalize H1 = H at hP hS ⊢
  have hP : va_P (dC, dI) vwCl [(a24, .inr (3, [.ref b29, .ref t110, .ref t211, .ref t312, .int 0])), (b29, .inr (0, [.ref yb13, .int 0])), (a35, .inr (1, [.ref h114, .ref h215, .ref h316, .int 0, .int 0, .int 0])), (a57, .inr (5, [.ref h417, .ref b518, .int 0])), (b518, .inr (0, [.ref yc19, .int 0]))] H := hP
  have hD : va_D (fun q : Nat => s.heap.size ≤ q) [(a24, .inr (3, [.ref b29, .ref t110, .ref t211, .ref t312, .int 0])), (b29, .inr (0, [.ref yb13, .int 0])), (a35, .inr (1, [.ref h114, .ref h215, .ref h316, .int 0, .int 0, .int 0])), (a57, .inr (5, [.ref h417, .ref b518, .int 0])), (b518, .inr (0, [.ref yc19, .int 0]))] := hD
  have hK : va_K (dC, dI) vwCl [] s := hK
  have hw : r6 = pf_feed (xs (3 : Int32).toNatClampNeg) := hw
  subst hw
  refine lv_icmp_eq (tgt := 600) hx hb dL_law_170 (by decide) (fun c_170 => ?_) (fun c_170 => absurd (rfl) c_170)
  exact law_end C0 hS (lv_sub hl [3, 0] rfl)

set_option maxHeartbeats 4000000 in
set_option maxRecDepth 100000 in
theorem law_set {p : Program} {l : Launch} {e : Env} {s : State} {m : MethodId} {below : List Frame} {meth : Method} {c : Code} {b : Nat} {xs : Nat → Int32} (C0 : lw_At p s m meth c b 4 xs) {dC : Nat → ClassId} {dI : Nat → Nat → Nat} {q1 a13 a24 a35 a46 a57 ya8 b29 t110 t211 t312 yb13 h114 h215 h316 h417 b518 yc19 q22 m124 m225 m326 m427 m528 m629 m730 m831 m932 m1033 m1134 m1235 m1336 m1437 m1538 m1639 : Nat} {cA20 cI40 : ClassId} {f021 f041 : Nat → Int32} {H : Heap} {locs : List Loc} (hK : va_K (dC, dI) vwCl [(cA20, .byte), (cI40, .int)] s) (hP : va_P (dC, dI) vwCl [(q1, .inr (6, [.ref a13, .ref a24, .ref a35, .ref a46, .ref a57, .int (-1), .int 0])), (a13, .inr (0, [.ref ya8, .int 0])), (ya8, .inl (cA20, 1200, .inl f021)), (a24, .inr (3, [.ref b29, .ref t110, .ref t211, .ref t312, .int 0])), (b29, .inr (0, [.ref yb13, .int 0])), (a35, .inr (1, [.ref h114, .ref h215, .ref h316, .int 0, .int 0, .int 0])), (a57, .inr (5, [.ref h417, .ref b518, .int 0])), (b518, .inr (0, [.ref yc19, .int 0])), (q22, .inr (7, [.int 0, .ref m124, .int 0, .int (-1), .int 0, .int 0, .int 0, .ref m225, .int 0, .int 0, .ref m326, .ref m427, .ref m528, .ref m629, .ref m730, .ref m831, .ref m932, .int 0, .ref m1033, .ref m1134, .ref m1235, .int 0, .ref m1336, .ref m1437, .ref m1538, .int 0, .ref m1639, .int 0, .int 0])), (m124, .inl (cI40, 1200, .inl f041))] H) (hD : va_D (fun q : Nat => s.heap.size ≤ q) [(q1, .inr (6, [.ref a13, .ref a24, .ref a35, .ref a46, .ref a57, .int (-1), .int 0])), (a13, .inr (0, [.ref ya8, .int 0])), (ya8, .inl (cA20, 1200, .inl f021)), (a24, .inr (3, [.ref b29, .ref t110, .ref t211, .ref t312, .int 0])), (b29, .inr (0, [.ref yb13, .int 0])), (a35, .inr (1, [.ref h114, .ref h215, .ref h316, .int 0, .int 0, .int 0])), (a57, .inr (5, [.ref h417, .ref b518, .int 0])), (b518, .inr (0, [.ref yc19, .int 0])), (q22, .inr (7, [.int 0, .ref m124, .int 0, .int (-1), .int 0, .int 0, .int 0, .ref m225, .int 0, .int 0, .ref m326, .ref m427, .ref m528, .ref m629, .ref m730, .ref m831, .ref m932, .int 0, .ref m1033, .ref m1134, .ref m1235, .int 0, .ref m1336, .ref m1437, .ref m1538, .int 0, .ref m1639, .int 0, .int 0])), (m124, .inl (cI40, 1200, .inl f041))]) (hS : va_S (fun q : Nat => s.heap.size ≤ q) s.heap H locs) {ls : Array Slot} (hl : lv_has ls 4 [(3, .int 0), (2, .ref q22), (1, .ref q1), (0, .ref b)]) : W p l e room_1 s m #[Value.ref b] below meth c H locs 40 14459 (lw_Z below #[Value.ref b] s) (F0 m 175 ls []) := by
  obtain ⟨hx, hb, hr, hml, hown0, hts0, hX, hbl, hlocks, hgv⟩ := id C0
  have hown : s.vm.findClass RL = some m.cls := hown0
  have hts : ∀ w ∈ pwAll, w.before #[Value.ref b] s = true := fun w h => hts0 w (pwAll_in w h)
  have hA : ∀ q : Nat, s.heap.size ≤ q → (fun q : Nat => s.heap.size ≤ q) q := fun _ h => h
  have hbA : ¬ (fun q : Nat => s.heap.size ≤ q) b := Nat.not_le.mpr hbl
  refine lv_aload_n hx hb dL_law_175 rfl (lv_at hl 2 rfl) ?_
  refine lv_aload_n hx hb dL_law_176 rfl (lv_at hl 3 rfl) ?_
  refine lv_iload_n hx hb dL_law_177 rfl (lv_at hl 0 rfl) ?_
  refine lv_iconst (v := 1) hx hb dL_law_178 (by decide) ?_
  refine lv_iadd hx hb dL_law_179 ?_
  refine pf_top (y := 1) (by decide) ?_
  refine va_sld hx hb hX hbl hbA hS pf_i1 dL_law_180 ?_
  refine lv_aload_n hx hb dL_law_181 rfl (lv_at hl 3 rfl) ?_
  refine lv_iload_n hx hb dL_law_182 rfl (lv_at hl 0 rfl) ?_
  refine lv_iconst (v := 2) hx hb dL_law_183 (by decide) ?_
  refine lv_iadd hx hb dL_law_184 ?_
  refine pf_top (y := 2) (by decide) ?_
  refine va_sld hx hb hX hbl hbA hS pf_i2 dL_law_185 ?_
  have hPc := hP.sub (ws' := [(q1, .inr (6, [.ref a13, .ref a24, .ref a35, .ref a46, .ref a57, .int (-1), .int 0])), (a13, .inr (0, [.ref ya8, .int 0]))]) [0, 1] rfl
  have hDc := hD.sub (ws' := [(q1, .inr (6, [.ref a13, .ref a24, .ref a35, .ref a46, .ref a57, .int (-1), .int 0])), (a13, .inr (0, [.ref ya8, .int 0]))]) [0, 1] (by decide) rfl
  have hKc := hK.sub (tys' := []) [] rfl
  have hFc := va_free (wc := [(q1, .inr (6, [.ref a13, .ref a24, .ref a35, .ref a46, .ref a57, .int (-1), .int 0])), (a13, .inr (0, [.ref ya8, .int 0]))]) hD hS hA [0, 1] rfl
  refine va_calli (va_runV (As := [.int (xs (1 : Int32).toNatClampNeg), .int (xs (2 : Int32).toNatClampNeg)]) (rest := []) ⟨hx, hb, hml, hown, hts⟩ (c_X6_set l dC dI H.size q1 a13 a24 a35 a46 a57 ya8 (xs (1 : Int32).toNatClampNeg) (xs (2 : Int32).toNatClampNeg)) (cwV 2 hts gg_RL_20 rfl rfl rfl (by decide +kernel) ⟨Nat.le_of_ble_eq_true rfl, Nat.le_of_ble_eq_true rfl⟩) ⟨fun a U g mk q => by obtain ⟨q0, q1, qP, qK, qD⟩ := q; exact ⟨q0, q1, qP, va_K.moved (u := U) (U := U.calling g mk a) (Vm.Alike.refl U.vm) qK, qD⟩, va_recv hK hP (ci := 6) (q0 := 0) rfl rfl, fun U hU hW => ⟨rfl, by rw [hU], by rw [hU]; exact hPc, va_K.moved hW.alike hKc, hDc.weaken (fun _ _ _ _ => trivial)⟩⟩ rfl rfl hl.1 rfl (lv_room (Nat.le_of_ble_eq_true rfl)) dL_law_186 ⟨Nat.le_of_ble_eq_true rfl, Nat.le_of_ble_eq_true rfl⟩) hS (fun q _ h => hFc q h) hFc (fun r1 u t H1 locs ht hvm hw hB hz1 hk1 hS => ?_)
  obtain ⟨hP1, hK1, hD1⟩ := hB
  rw [ht] at hP1
  have hK1 := va_K.moved hvm.symm hK1
  obtain ⟨hP, hD⟩ := va_join (wr := [(ya8, .inl (cA20, 1200, .inl f021)), (a24, .inr (3, [.ref b29, .ref t110, .ref t211, .ref t312, .int 0])), (b29, .inr (0, [.ref yb13, .int 0])), (a35, .inr (1, [.ref h114, .ref h215, .ref h316, .int 0, .int 0, .int 0])), (a57, .inr (5, [.ref h417, .ref b518, .int 0])), (b518, .inr (0, [.ref yc19, .int 0])), (q22, .inr (7, [.int 0, .ref m124, .int 0, .int (-1), .int 0, .int 0, .int 0, .ref m225, .int 0, .int 0, .ref m326, .ref m427, .ref m528, .ref m629, .ref m730, .ref m831, .ref m932, .int 0, .ref m1033, .ref m1134, .ref m1235, .int 0, .ref m1336, .ref m1437, .ref m1538, .int 0, .ref m1639, .int 0, .int 0])), (m124, .inl (cI40, 1200, .inl f041))]) (w1 := []) hP hD [0, 1] [2, 3, 4, 5, 6, 7, 8, 9] rfl rfl (by decide) (by decide) hk1 hFc hP1 hD1
  have hK := (hK.sub (tys' := [(cA20, .byte), (cI40, .int)]) [0, 1] rfl).app hK1
  generalize H1 = H at hP hS ⊢
  have hP : va_P (dC, dI) vwCl [(ya8, .inl (cA20, 1200, .inl f021)), (a24, .inr (3, [.ref b29, .ref t110, .ref t211, .ref t312, .int 0])), (b29, .inr (0, [.ref yb13, .int 0])), (a35, .inr (1, [.ref h114, .ref h215, .ref h316, .int 0, .int 0, .int 0])), (a57, .inr (5, [.ref h417, .ref b518, .int 0])), (b518, .inr (0, [.ref yc19, .int 0])), (q22, .inr (7, [.int 0, .ref m124, .int 0, .int (-1), .int 0, .int 0, .int 0, .ref m225, .int 0, .int 0, .ref m326, .ref m427, .ref m528, .ref m629, .ref m730, .ref m831, .ref m932, .int 0, .ref m1033, .ref m1134, .ref m1235, .int 0, .ref m1336, .ref m1437, .ref m1538, .int 0, .ref m1639, .int 0, .int 0])), (m124, .inl (cI40, 1200, .inl f041))] H := hP
  have hD : va_D (fun q : Nat => s.heap.size ≤ q) [(ya8, .inl (cA20, 1200, .inl f021)), (a24, .inr (3, [.ref b29, .ref t110, .ref t211, .ref t312, .int 0])), (b29, .inr (0, [.ref yb13, .int 0])), (a35, .inr (1, [.ref h114, .ref h215, .ref h316, .int 0, .int 0, .int 0])), (a57, .inr (5, [.ref h417, .ref b518, .int 0])), (b518, .inr (0, [.ref yc19, .int 0])), (q22, .inr (7, [.int 0, .ref m124, .int 0, .int (-1), .int 0, .int 0, .int 0, .ref m225, .int 0, .int 0, .ref m326, .ref m427, .ref m528, .ref m629, .ref m730, .ref m831, .ref m932, .int 0, .ref m1033, .ref m1134, .ref m1235, .int 0, .ref m1336, .ref m1437, .ref m1538, .int 0, .ref m1639, .int 0, .int 0])), (m124, .inl (cI40, 1200, .inl f041))] := hD
  have hK : va_K (dC, dI) vwCl [(cA20, .byte), (cI40, .int)] s := hK
  have hw : r1 = (-2) := hw
  subst hw
  refine lv_aload_n hx hb dL_law_189 rfl (lv_at hl 1 rfl) ?_
  refine lv_aload_n hx hb dL_law_190 rfl (lv_at hl 3 rfl) ?_
  refine lv_iload_n hx hb dL_law_191 rfl (lv_at hl 0 rfl) ?_
  refine lv_iconst (v := 1) hx hb dL_law_192 (by decide) ?_
  refine lv_iadd hx hb dL_law_193 ?_
  refine pf_top (y := 1) (by decide) ?_
  refine va_sld hx hb hX hbl hbA hS pf_i1 dL_law_194 ?_
  refine lv_aload_n hx hb dL_law_195 rfl (lv_at hl 3 rfl) ?_
  refine lv_iload_n hx hb dL_law_196 rfl (lv_at hl 0 rfl) ?_
  refine lv_iconst (v := 2) hx hb dL_law_197 (by decide) ?_
  refine lv_iadd hx hb dL_law_198 ?_
  refine pf_top (y := 2) (by decide) ?_
  refine va_sld hx hb hX hbl hbA hS pf_i2 dL_law_199 ?_
  have hPc := hP.sub (ws' := [(q22, .inr (7, [.int 0, .ref m124, .int 0, .int (-1), .int 0, .int 0, .int 0, .ref m225, .int 0, .int 0, .ref m326, .ref m427, .ref m528, .ref m629, .ref m730, .ref m831, .ref m932, .int 0, .ref m1033, .ref m1134, .ref m1235, .int 0, .ref m1336, .ref m1437, .ref m1538, .int 0, .ref m1639, .int 0, .int 0]))]) [6] rfl
  have hDc := hD.sub (ws' := [(q22, .inr (7, [.int 0, .ref m124, .int 0, .int (-1), .int 0, .int 0, .int 0, .ref m225, .int 0, .int 0, .ref m326, .ref m427, .ref m528, .ref m629, .ref m730, .ref m831, .ref m932, .int 0, .ref m1033, .ref m1134, .ref m1235, .int 0, .ref m1336, .ref m1437, .ref m1538, .int 0, .ref m1639, .int 0, .int 0]))]) [6] (by decide) rfl
  have hKc := hK.sub (tys' := []) [] rfl
  have hFc := va_free (wc := [(q22, .inr (7, [.int 0, .ref m124, .int 0, .int (-1), .int 0, .int 0, .int 0, .ref m225, .int 0, .int 0, .ref m326, .ref m427, .ref m528, .ref m629, .ref m730, .ref m831, .ref m932, .int 0, .ref m1033, .ref m1134, .ref m1235, .int 0, .ref m1336, .ref m1437, .ref m1538, .int 0, .ref m1639, .int 0, .int 0]))]) hD hS hA [6] rfl
  refine va_calli (va_runV (As := [.int (xs (1 : Int32).toNatClampNeg), .int (xs (2 : Int32).toNatClampNeg)]) (rest := [.int (-2)]) ⟨hx, hb, hml, hown, hts⟩ (c_X7_set l dC dI H.size q22 m124 m225 m326 m427 m528 m629 m730 m831 m932 m1033 m1134 m1235 m1336 m1437 m1538 m1639 (xs (1 : Int32).toNatClampNeg) (xs (2 : Int32).toNatClampNeg)) (cwV 2 hts gg_RL_24 rfl rfl rfl (by decide +kernel) ⟨Nat.le_of_ble_eq_true rfl, Nat.le_of_ble_eq_true rfl⟩) ⟨fun a U g mk q => by obtain ⟨q0, q1, qP, qK, qD⟩ := q; exact ⟨q0, q1, qP, va_K.moved (u := U) (U := U.calling g mk a) (Vm.Alike.refl U.vm) qK, qD⟩, va_recv hK hP (ci := 7) (q0 := 6) rfl rfl, fun U hU hW => ⟨rfl, by rw [hU], by rw [hU]; exact hPc, va_K.moved hW.alike hKc, hDc.weaken (fun _ _ _ _ => trivial)⟩⟩ rfl rfl hl.1 rfl (lv_room (Nat.le_of_ble_eq_true rfl)) dL_law_200 ⟨Nat.le_of_ble_eq_true rfl, Nat.le_of_ble_eq_true rfl⟩) hS (fun q _ h => hFc q h) hFc (fun r2 u t H1 locs ht hvm hw hB hz1 hk1 hS => ?_)
  obtain ⟨hP1, hK1, hD1⟩ := hB
  rw [ht] at hP1
  have hK1 := va_K.moved hvm.symm hK1
  obtain ⟨hP, hD⟩ := va_join (wr := [(ya8, .inl (cA20, 1200, .inl f021)), (a24, .inr (3, [.ref b29, .ref t110, .ref t211, .ref t312, .int 0])), (b29, .inr (0, [.ref yb13, .int 0])), (a35, .inr (1, [.ref h114, .ref h215, .ref h316, .int 0, .int 0, .int 0])), (a57, .inr (5, [.ref h417, .ref b518, .int 0])), (b518, .inr (0, [.ref yc19, .int 0])), (m124, .inl (cI40, 1200, .inl f041))]) (w1 := []) hP hD [6] [0, 1, 2, 3, 4, 5, 7] rfl rfl (by decide) (by decide) hk1 hFc hP1 hD1
  have hK := (hK.sub (tys' := [(cA20, .byte), (cI40, .int)]) [0, 1] rfl).app hK1
  generalize H1 = H at hP hS ⊢
  have hP : va_P (dC, dI) vwCl [(ya8, .inl (cA20, 1200, .inl f021)), (a24, .inr (3, [.ref b29, .ref t110, .ref t211, .ref t312, .int 0])), (b29, .inr (0, [.ref yb13, .int 0])), (a35, .inr (1, [.ref h114, .ref h215, .ref h316, .int 0, .int 0, .int 0])), (a57, .inr (5, [.ref h417, .ref b518, .int 0])), (b518, .inr (0, [.ref yc19, .int 0])), (m124, .inl (cI40, 1200, .inl f041))] H := hP
  have hD : va_D (fun q : Nat => s.heap.size ≤ q) [(ya8, .inl (cA20, 1200, .inl f021)), (a24, .inr (3, [.ref b29, .ref t110, .ref t211, .ref t312, .int 0])), (b29, .inr (0, [.ref yb13, .int 0])), (a35, .inr (1, [.ref h114, .ref h215, .ref h316, .int 0, .int 0, .int 0])), (a57, .inr (5, [.ref h417, .ref b518, .int 0])), (b518, .inr (0, [.ref yc19, .int 0])), (m124, .inl (cI40, 1200, .inl f041))] := hD
  have hK : va_K (dC, dI) vwCl [(cA20, .byte), (cI40, .int)] s := hK
  have hw : r2 = (-2) := hw
  subst hw
  refine lv_icmp_eq (tgt := 600) hx hb dL_law_203 (by decide) (fun c_203 => ?_) (fun c_203 => absurd (rfl) c_203)
  exact law_end C0 hS (lv_sub hl [3, 0] rfl)

set_option maxHeartbeats 4000000 in
set_option maxRecDepth 100000 in
theorem law_cut {p : Program} {l : Launch} {e : Env} {s : State} {m : MethodId} {below : List Frame} {meth : Method} {c : Code} {b : Nat} {xs : Nat → Int32} (C0 : lw_At p s m meth c b 4 xs) {dC : Nat → ClassId} {dI : Nat → Nat → Nat} {q1 a13 a24 a35 a46 a57 ya8 b29 t110 t211 t312 yb13 h114 h215 h316 h417 b518 yc19 q22 m124 m225 m326 m427 m528 m629 m730 m831 m932 m1033 m1134 m1235 m1336 m1437 m1538 m1639 : Nat} {cA20 cI40 : ClassId} {f021 f041 : Nat → Int32} {H : Heap} {locs : List Loc} (hK : va_K (dC, dI) vwCl [(cA20, .byte), (cI40, .int)] s) (hP : va_P (dC, dI) vwCl [(q1, .inr (6, [.ref a13, .ref a24, .ref a35, .ref a46, .ref a57, .int (-1), .int 0])), (a13, .inr (0, [.ref ya8, .int 0])), (ya8, .inl (cA20, 1200, .inl f021)), (a24, .inr (3, [.ref b29, .ref t110, .ref t211, .ref t312, .int 0])), (b29, .inr (0, [.ref yb13, .int 0])), (a35, .inr (1, [.ref h114, .ref h215, .ref h316, .int 0, .int 0, .int 0])), (a57, .inr (5, [.ref h417, .ref b518, .int 0])), (b518, .inr (0, [.ref yc19, .int 0])), (q22, .inr (7, [.int 0, .ref m124, .int 0, .int (-1), .int 0, .int 0, .int 0, .ref m225, .int 0, .int 0, .ref m326, .ref m427, .ref m528, .ref m629, .ref m730, .ref m831, .ref m932, .int 0, .ref m1033, .ref m1134, .ref m1235, .int 0, .ref m1336, .ref m1437, .ref m1538, .int 0, .ref m1639, .int 0, .int 0])), (m124, .inl (cI40, 1200, .inl f041))] H) (hD : va_D (fun q : Nat => s.heap.size ≤ q) [(q1, .inr (6, [.ref a13, .ref a24, .ref a35, .ref a46, .ref a57, .int (-1), .int 0])), (a13, .inr (0, [.ref ya8, .int 0])), (ya8, .inl (cA20, 1200, .inl f021)), (a24, .inr (3, [.ref b29, .ref t110, .ref t211, .ref t312, .int 0])), (b29, .inr (0, [.ref yb13, .int 0])), (a35, .inr (1, [.ref h114, .ref h215, .ref h316, .int 0, .int 0, .int 0])), (a57, .inr (5, [.ref h417, .ref b518, .int 0])), (b518, .inr (0, [.ref yc19, .int 0])), (q22, .inr (7, [.int 0, .ref m124, .int 0, .int (-1), .int 0, .int 0, .int 0, .ref m225, .int 0, .int 0, .ref m326, .ref m427, .ref m528, .ref m629, .ref m730, .ref m831, .ref m932, .int 0, .ref m1033, .ref m1134, .ref m1235, .int 0, .ref m1336, .ref m1437, .ref m1538, .int 0, .ref m1639, .int 0, .int 0])), (m124, .inl (cI40, 1200, .inl f041))]) (hS : va_S (fun q : Nat => s.heap.size ≤ q) s.heap H locs) {ls : Array Slot} (hl : lv_has ls 4 [(3, .int 0), (2, .ref q22), (1, .ref q1), (0, .ref b)]) : W p l e room_1 s m #[Value.ref b] below meth c H locs 40 14459 (lw_Z below #[Value.ref b] s) (F0 m 208 ls []) := by
  obtain ⟨hx, hb, hr, hml, hown0, hts0, hX, hbl, hlocks, hgv⟩ := id C0
  have hown : s.vm.findClass RL = some m.cls := hown0
  have hts : ∀ w ∈ pwAll, w.before #[Value.ref b] s = true := fun w h => hts0 w (pwAll_in w h)
  have hA : ∀ q : Nat, s.heap.size ≤ q → (fun q : Nat => s.heap.size ≤ q) q := fun _ h => h
  have hbA : ¬ (fun q : Nat => s.heap.size ≤ q) b := Nat.not_le.mpr hbl
  refine lv_aload_n hx hb dL_law_208 rfl (lv_at hl 2 rfl) ?_
  refine lv_aload_n hx hb dL_law_209 rfl (lv_at hl 3 rfl) ?_
  refine lv_iload_n hx hb dL_law_210 rfl (lv_at hl 0 rfl) ?_
  refine lv_iconst (v := 1) hx hb dL_law_211 (by decide) ?_
  refine lv_iadd hx hb dL_law_212 ?_
  refine pf_top (y := 1) (by decide) ?_
  refine va_sld hx hb hX hbl hbA hS pf_i1 dL_law_213 ?_
  have hPc := hP.sub (ws' := [(q1, .inr (6, [.ref a13, .ref a24, .ref a35, .ref a46, .ref a57, .int (-1), .int 0])), (a13, .inr (0, [.ref ya8, .int 0]))]) [0, 1] rfl
  have hDc := hD.sub (ws' := [(q1, .inr (6, [.ref a13, .ref a24, .ref a35, .ref a46, .ref a57, .int (-1), .int 0])), (a13, .inr (0, [.ref ya8, .int 0]))]) [0, 1] (by decide) rfl
  have hKc := hK.sub (tys' := []) [] rfl
  have hFc := va_free (wc := [(q1, .inr (6, [.ref a13, .ref a24, .ref a35, .ref a46, .ref a57, .int (-1), .int 0])), (a13, .inr (0, [.ref ya8, .int 0]))]) hD hS hA [0, 1] rfl
  refine va_calli (va_runV (As := [.int (xs (1 : Int32).toNatClampNeg)]) (rest := []) ⟨hx, hb, hml, hown, hts⟩ (c_X6_cut l dC dI H.size q1 a13 a24 a35 a46 a57 ya8 (xs (1 : Int32).toNatClampNeg)) (cwV 1 hts gg_RL_25 rfl rfl rfl (by decide +kernel) ⟨Nat.le_of_ble_eq_true rfl, Nat.le_of_ble_eq_true rfl⟩) ⟨fun a U g mk q => by obtain ⟨q0, q1, qP, qK, qD⟩ := q; exact ⟨q0, q1, qP, va_K.moved (u := U) (U := U.calling g mk a) (Vm.Alike.refl U.vm) qK, qD⟩, va_recv hK hP (ci := 6) (q0 := 0) rfl rfl, fun U hU hW => ⟨rfl, by rw [hU], by rw [hU]; exact hPc, va_K.moved hW.alike hKc, hDc.weaken (fun _ _ _ _ => trivial)⟩⟩ rfl rfl hl.1 rfl (lv_room (Nat.le_of_ble_eq_true rfl)) dL_law_214 ⟨Nat.le_of_ble_eq_true rfl, Nat.le_of_ble_eq_true rfl⟩) hS (fun q _ h => hFc q h) hFc (fun r1 u t H1 locs ht hvm hw hB hz1 hk1 hS => ?_)
  obtain ⟨hP1, hK1, hD1⟩ := hB
  rw [ht] at hP1
  have hK1 := va_K.moved hvm.symm hK1
  obtain ⟨hP, hD⟩ := va_join (wr := [(ya8, .inl (cA20, 1200, .inl f021)), (a24, .inr (3, [.ref b29, .ref t110, .ref t211, .ref t312, .int 0])), (b29, .inr (0, [.ref yb13, .int 0])), (a35, .inr (1, [.ref h114, .ref h215, .ref h316, .int 0, .int 0, .int 0])), (a57, .inr (5, [.ref h417, .ref b518, .int 0])), (b518, .inr (0, [.ref yc19, .int 0])), (q22, .inr (7, [.int 0, .ref m124, .int 0, .int (-1), .int 0, .int 0, .int 0, .ref m225, .int 0, .int 0, .ref m326, .ref m427, .ref m528, .ref m629, .ref m730, .ref m831, .ref m932, .int 0, .ref m1033, .ref m1134, .ref m1235, .int 0, .ref m1336, .ref m1437, .ref m1538, .int 0, .ref m1639, .int 0, .int 0])), (m124, .inl (cI40, 1200, .inl f041))]) (w1 := []) hP hD [0, 1] [2, 3, 4, 5, 6, 7, 8, 9] rfl rfl (by decide) (by decide) hk1 hFc hP1 hD1
  have hK := (hK.sub (tys' := [(cA20, .byte), (cI40, .int)]) [0, 1] rfl).app hK1
  generalize H1 = H at hP hS ⊢
  have hP : va_P (dC, dI) vwCl [(ya8, .inl (cA20, 1200, .inl f021)), (a24, .inr (3, [.ref b29, .ref t110, .ref t211, .ref t312, .int 0])), (b29, .inr (0, [.ref yb13, .int 0])), (a35, .inr (1, [.ref h114, .ref h215, .ref h316, .int 0, .int 0, .int 0])), (a57, .inr (5, [.ref h417, .ref b518, .int 0])), (b518, .inr (0, [.ref yc19, .int 0])), (q22, .inr (7, [.int 0, .ref m124, .int 0, .int (-1), .int 0, .int 0, .int 0, .ref m225, .int 0, .int 0, .ref m326, .ref m427, .ref m528, .ref m629, .ref m730, .ref m831, .ref m932, .int 0, .ref m1033, .ref m1134, .ref m1235, .int 0, .ref m1336, .ref m1437, .ref m1538, .int 0, .ref m1639, .int 0, .int 0])), (m124, .inl (cI40, 1200, .inl f041))] H := hP
  have hD : va_D (fun q : Nat => s.heap.size ≤ q) [(ya8, .inl (cA20, 1200, .inl f021)), (a24, .inr (3, [.ref b29, .ref t110, .ref t211, .ref t312, .int 0])), (b29, .inr (0, [.ref yb13, .int 0])), (a35, .inr (1, [.ref h114, .ref h215, .ref h316, .int 0, .int 0, .int 0])), (a57, .inr (5, [.ref h417, .ref b518, .int 0])), (b518, .inr (0, [.ref yc19, .int 0])), (q22, .inr (7, [.int 0, .ref m124, .int 0, .int (-1), .int 0, .int 0, .int 0, .ref m225, .int 0, .int 0, .ref m326, .ref m427, .ref m528, .ref m629, .ref m730, .ref m831, .ref m932, .int 0, .ref m1033, .ref m1134, .ref m1235, .int 0, .ref m1336, .ref m1437, .ref m1538, .int 0, .ref m1639, .int 0, .int 0])), (m124, .inl (cI40, 1200, .inl f041))] := hD
  have hK : va_K (dC, dI) vwCl [(cA20, .byte), (cI40, .int)] s := hK
  have hw : r1 = pf_cut (xs (1 : Int32).toNatClampNeg) := hw
  subst hw
  refine lv_aload_n hx hb dL_law_217 rfl (lv_at hl 1 rfl) ?_
  refine lv_aload_n hx hb dL_law_218 rfl (lv_at hl 3 rfl) ?_
  refine lv_iload_n hx hb dL_law_219 rfl (lv_at hl 0 rfl) ?_
  refine lv_iconst (v := 1) hx hb dL_law_220 (by decide) ?_
  refine lv_iadd hx hb dL_law_221 ?_
  refine pf_top (y := 1) (by decide) ?_
  refine va_sld hx hb hX hbl hbA hS pf_i1 dL_law_222 ?_
  have hPc := hP.sub (ws' := [(q22, .inr (7, [.int 0, .ref m124, .int 0, .int (-1), .int 0, .int 0, .int 0, .ref m225, .int 0, .int 0, .ref m326, .ref m427, .ref m528, .ref m629, .ref m730, .ref m831, .ref m932, .int 0, .ref m1033, .ref m1134, .ref m1235, .int 0, .ref m1336, .ref m1437, .ref m1538, .int 0, .ref m1639, .int 0, .int 0]))]) [6] rfl
  have hDc := hD.sub (ws' := [(q22, .inr (7, [.int 0, .ref m124, .int 0, .int (-1), .int 0, .int 0, .int 0, .ref m225, .int 0, .int 0, .ref m326, .ref m427, .ref m528, .ref m629, .ref m730, .ref m831, .ref m932, .int 0, .ref m1033, .ref m1134, .ref m1235, .int 0, .ref m1336, .ref m1437, .ref m1538, .int 0, .ref m1639, .int 0, .int 0]))]) [6] (by decide) rfl
  have hKc := hK.sub (tys' := []) [] rfl
  have hFc := va_free (wc := [(q22, .inr (7, [.int 0, .ref m124, .int 0, .int (-1), .int 0, .int 0, .int 0, .ref m225, .int 0, .int 0, .ref m326, .ref m427, .ref m528, .ref m629, .ref m730, .ref m831, .ref m932, .int 0, .ref m1033, .ref m1134, .ref m1235, .int 0, .ref m1336, .ref m1437, .ref m1538, .int 0, .ref m1639, .int 0, .int 0]))]) hD hS hA [6] rfl
  refine va_calli (va_runV (As := [.int (xs (1 : Int32).toNatClampNeg)]) (rest := [.int (pf_cut (xs (1 : Int32).toNatClampNeg))]) ⟨hx, hb, hml, hown, hts⟩ (c_X7_cut l dC dI H.size q22 m124 m225 m326 m427 m528 m629 m730 m831 m932 m1033 m1134 m1235 m1336 m1437 m1538 m1639 (xs (1 : Int32).toNatClampNeg)) (cwV 1 hts gg_RL_29 rfl rfl rfl (by decide +kernel) ⟨Nat.le_of_ble_eq_true rfl, Nat.le_of_ble_eq_true rfl⟩) ⟨fun a U g mk q => by obtain ⟨q0, q1, qP, qK, qD⟩ := q; exact ⟨q0, q1, qP, va_K.moved (u := U) (U := U.calling g mk a) (Vm.Alike.refl U.vm) qK, qD⟩, va_recv hK hP (ci := 7) (q0 := 6) rfl rfl, fun U hU hW => ⟨rfl, by rw [hU], by rw [hU]; exact hPc, va_K.moved hW.alike hKc, hDc.weaken (fun _ _ _ _ => trivial)⟩⟩ rfl rfl hl.1 rfl (lv_room (Nat.le_of_ble_eq_true rfl)) dL_law_223 ⟨Nat.le_of_ble_eq_true rfl, Nat.le_of_ble_eq_true rfl⟩) hS (fun q _ h => hFc q h) hFc (fun r2 u t H1 locs ht hvm hw hB hz1 hk1 hS => ?_)
  obtain ⟨hP1, hK1, hD1⟩ := hB
  rw [ht] at hP1
  have hK1 := va_K.moved hvm.symm hK1
  obtain ⟨hP, hD⟩ := va_join (wr := [(ya8, .inl (cA20, 1200, .inl f021)), (a24, .inr (3, [.ref b29, .ref t110, .ref t211, .ref t312, .int 0])), (b29, .inr (0, [.ref yb13, .int 0])), (a35, .inr (1, [.ref h114, .ref h215, .ref h316, .int 0, .int 0, .int 0])), (a57, .inr (5, [.ref h417, .ref b518, .int 0])), (b518, .inr (0, [.ref yc19, .int 0])), (m124, .inl (cI40, 1200, .inl f041))]) (w1 := []) hP hD [6] [0, 1, 2, 3, 4, 5, 7] rfl rfl (by decide) (by decide) hk1 hFc hP1 hD1
  have hK := (hK.sub (tys' := [(cA20, .byte), (cI40, .int)]) [0, 1] rfl).app hK1
  generalize H1 = H at hP hS ⊢
  have hP : va_P (dC, dI) vwCl [(ya8, .inl (cA20, 1200, .inl f021)), (a24, .inr (3, [.ref b29, .ref t110, .ref t211, .ref t312, .int 0])), (b29, .inr (0, [.ref yb13, .int 0])), (a35, .inr (1, [.ref h114, .ref h215, .ref h316, .int 0, .int 0, .int 0])), (a57, .inr (5, [.ref h417, .ref b518, .int 0])), (b518, .inr (0, [.ref yc19, .int 0])), (m124, .inl (cI40, 1200, .inl f041))] H := hP
  have hD : va_D (fun q : Nat => s.heap.size ≤ q) [(ya8, .inl (cA20, 1200, .inl f021)), (a24, .inr (3, [.ref b29, .ref t110, .ref t211, .ref t312, .int 0])), (b29, .inr (0, [.ref yb13, .int 0])), (a35, .inr (1, [.ref h114, .ref h215, .ref h316, .int 0, .int 0, .int 0])), (a57, .inr (5, [.ref h417, .ref b518, .int 0])), (b518, .inr (0, [.ref yc19, .int 0])), (m124, .inl (cI40, 1200, .inl f041))] := hD
  have hK : va_K (dC, dI) vwCl [(cA20, .byte), (cI40, .int)] s := hK
  have hw : r2 = pf_cut (xs (1 : Int32).toNatClampNeg) := hw
  subst hw
  refine lv_icmp_eq (tgt := 600) hx hb dL_law_226 (by decide) (fun c_226 => ?_) (fun c_226 => absurd (rfl) c_226)
  exact law_end C0 hS (lv_sub hl [3, 0] rfl)

set_option maxHeartbeats 4000000 in
set_option maxRecDepth 100000 in
theorem law_read {p : Program} {l : Launch} {e : Env} {s : State} {m : MethodId} {below : List Frame} {meth : Method} {c : Code} {b : Nat} {xs : Nat → Int32} (C0 : lw_At p s m meth c b 4 xs) {dC : Nat → ClassId} {dI : Nat → Nat → Nat} {q1 a13 a24 a35 a46 a57 ya8 b29 t110 t211 t312 yb13 h114 h215 h316 h417 b518 yc19 q22 m124 m225 m326 m427 m528 m629 m730 m831 m932 m1033 m1134 m1235 m1336 m1437 m1538 m1639 : Nat} {cA20 cI40 : ClassId} {f021 f041 : Nat → Int32} {H : Heap} {locs : List Loc} (hK : va_K (dC, dI) vwCl [(cA20, .byte), (cI40, .int)] s) (hP : va_P (dC, dI) vwCl [(q1, .inr (6, [.ref a13, .ref a24, .ref a35, .ref a46, .ref a57, .int (-1), .int 0])), (a13, .inr (0, [.ref ya8, .int 0])), (ya8, .inl (cA20, 1200, .inl f021)), (a24, .inr (3, [.ref b29, .ref t110, .ref t211, .ref t312, .int 0])), (b29, .inr (0, [.ref yb13, .int 0])), (a35, .inr (1, [.ref h114, .ref h215, .ref h316, .int 0, .int 0, .int 0])), (a57, .inr (5, [.ref h417, .ref b518, .int 0])), (b518, .inr (0, [.ref yc19, .int 0])), (q22, .inr (7, [.int 0, .ref m124, .int 0, .int (-1), .int 0, .int 0, .int 0, .ref m225, .int 0, .int 0, .ref m326, .ref m427, .ref m528, .ref m629, .ref m730, .ref m831, .ref m932, .int 0, .ref m1033, .ref m1134, .ref m1235, .int 0, .ref m1336, .ref m1437, .ref m1538, .int 0, .ref m1639, .int 0, .int 0])), (m124, .inl (cI40, 1200, .inl f041))] H) (hD : va_D (fun q : Nat => s.heap.size ≤ q) [(q1, .inr (6, [.ref a13, .ref a24, .ref a35, .ref a46, .ref a57, .int (-1), .int 0])), (a13, .inr (0, [.ref ya8, .int 0])), (ya8, .inl (cA20, 1200, .inl f021)), (a24, .inr (3, [.ref b29, .ref t110, .ref t211, .ref t312, .int 0])), (b29, .inr (0, [.ref yb13, .int 0])), (a35, .inr (1, [.ref h114, .ref h215, .ref h316, .int 0, .int 0, .int 0])), (a57, .inr (5, [.ref h417, .ref b518, .int 0])), (b518, .inr (0, [.ref yc19, .int 0])), (q22, .inr (7, [.int 0, .ref m124, .int 0, .int (-1), .int 0, .int 0, .int 0, .ref m225, .int 0, .int 0, .ref m326, .ref m427, .ref m528, .ref m629, .ref m730, .ref m831, .ref m932, .int 0, .ref m1033, .ref m1134, .ref m1235, .int 0, .ref m1336, .ref m1437, .ref m1538, .int 0, .ref m1639, .int 0, .int 0])), (m124, .inl (cI40, 1200, .inl f041))]) (hS : va_S (fun q : Nat => s.heap.size ≤ q) s.heap H locs) {ls : Array Slot} (hl : lv_has ls 4 [(3, .int 0), (2, .ref q22), (1, .ref q1), (0, .ref b)]) : W p l e room_1 s m #[Value.ref b] below meth c H locs 40 14459 (lw_Z below #[Value.ref b] s) (F0 m 231 ls []) := by
  obtain ⟨hx, hb, hr, hml, hown0, hts0, hX, hbl, hlocks, hgv⟩ := id C0
  have hown : s.vm.findClass RL = some m.cls := hown0
  have hts : ∀ w ∈ pwAll, w.before #[Value.ref b] s = true := fun w h => hts0 w (pwAll_in w h)
  have hA : ∀ q : Nat, s.heap.size ≤ q → (fun q : Nat => s.heap.size ≤ q) q := fun _ h => h
  have hbA : ¬ (fun q : Nat => s.heap.size ≤ q) b := Nat.not_le.mpr hbl
  refine lv_aload_n hx hb dL_law_231 rfl (lv_at hl 2 rfl) ?_
  have hPc := hP.sub (ws' := [(q1, .inr (6, [.ref a13, .ref a24, .ref a35, .ref a46, .ref a57, .int (-1), .int 0])), (a13, .inr (0, [.ref ya8, .int 0])), (a24, .inr (3, [.ref b29, .ref t110, .ref t211, .ref t312, .int 0])), (b29, .inr (0, [.ref yb13, .int 0])), (a35, .inr (1, [.ref h114, .ref h215, .ref h316, .int 0, .int 0, .int 0]))]) [0, 1, 3, 4, 5] rfl
  have hDc := hD.sub (ws' := [(q1, .inr (6, [.ref a13, .ref a24, .ref a35, .ref a46, .ref a57, .int (-1), .int 0])), (a13, .inr (0, [.ref ya8, .int 0])), (a24, .inr (3, [.ref b29, .ref t110, .ref t211, .ref t312, .int 0])), (b29, .inr (0, [.ref yb13, .int 0])), (a35, .inr (1, [.ref h114, .ref h215, .ref h316, .int 0, .int 0, .int 0]))]) [0, 1, 3, 4, 5] (by decide) rfl
  have hKc := hK.sub (tys' := []) [] rfl
  have hFc := va_free (wc := [(q1, .inr (6, [.ref a13, .ref a24, .ref a35, .ref a46, .ref a57, .int (-1), .int 0])), (a13, .inr (0, [.ref ya8, .int 0])), (a24, .inr (3, [.ref b29, .ref t110, .ref t211, .ref t312, .int 0])), (b29, .inr (0, [.ref yb13, .int 0])), (a35, .inr (1, [.ref h114, .ref h215, .ref h316, .int 0, .int 0, .int 0]))]) hD hS hA [0, 1, 3, 4, 5] rfl
  refine va_calli (va_runV (As := []) (rest := []) ⟨hx, hb, hml, hown, hts⟩ (c_X6_read l dC dI H.size q1 a13 a24 a35 a46 a57 ya8 b29 t110 t211 t312 yb13 h114 h215 h316) (cwV 0 hts gg_RL_30 rfl rfl rfl (by decide +kernel) ⟨Nat.le_of_ble_eq_true rfl, Nat.le_of_ble_eq_true rfl⟩) ⟨fun a U g mk q => by obtain ⟨q0, q1, qP, qK, qD⟩ := q; exact ⟨q0, q1, qP, va_K.moved (u := U) (U := U.calling g mk a) (Vm.Alike.refl U.vm) qK, qD⟩, va_recv hK hP (ci := 6) (q0 := 0) rfl rfl, fun U hU hW => ⟨rfl, by rw [hU], by rw [hU]; exact hPc, va_K.moved hW.alike hKc, hDc.weaken (fun _ _ _ _ => trivial)⟩⟩ rfl rfl hl.1 rfl (lv_room (Nat.le_of_ble_eq_true rfl)) dL_law_232 ⟨Nat.le_of_ble_eq_true rfl, Nat.le_of_ble_eq_true rfl⟩) hS (fun q _ h => hFc q h) hFc (fun r1 u t H1 locs ht hvm hw hB hz1 hk1 hS => ?_)
  obtain ⟨hP1, hK1, hD1⟩ := hB
  rw [ht] at hP1
  have hK1 := va_K.moved hvm.symm hK1
  obtain ⟨hP, hD⟩ := va_join (wr := [(ya8, .inl (cA20, 1200, .inl f021)), (a57, .inr (5, [.ref h417, .ref b518, .int 0])), (b518, .inr (0, [.ref yc19, .int 0])), (q22, .inr (7, [.int 0, .ref m124, .int 0, .int (-1), .int 0, .int 0, .int 0, .ref m225, .int 0, .int 0, .ref m326, .ref m427, .ref m528, .ref m629, .ref m730, .ref m831, .ref m932, .int 0, .ref m1033, .ref m1134, .ref m1235, .int 0, .ref m1336, .ref m1437, .ref m1538, .int 0, .ref m1639, .int 0, .int 0])), (m124, .inl (cI40, 1200, .inl f041))]) (w1 := []) hP hD [0, 1, 3, 4, 5] [2, 6, 7, 8, 9] rfl rfl (by decide) (by decide) hk1 hFc hP1 hD1
  have hK := (hK.sub (tys' := [(cA20, .byte), (cI40, .int)]) [0, 1] rfl).app hK1
  generalize H1 = H at hP hS ⊢
  have hP : va_P (dC, dI) vwCl [(ya8, .inl (cA20, 1200, .inl f021)), (a57, .inr (5, [.ref h417, .ref b518, .int 0])), (b518, .inr (0, [.ref yc19, .int 0])), (q22, .inr (7, [.int 0, .ref m124, .int 0, .int (-1), .int 0, .int 0, .int 0, .ref m225, .int 0, .int 0, .ref m326, .ref m427, .ref m528, .ref m629, .ref m730, .ref m831, .ref m932, .int 0, .ref m1033, .ref m1134, .ref m1235, .int 0, .ref m1336, .ref m1437, .ref m1538, .int 0, .ref m1639, .int 0, .int 0])), (m124, .inl (cI40, 1200, .inl f041))] H := hP
  have hD : va_D (fun q : Nat => s.heap.size ≤ q) [(ya8, .inl (cA20, 1200, .inl f021)), (a57, .inr (5, [.ref h417, .ref b518, .int 0])), (b518, .inr (0, [.ref yc19, .int 0])), (q22, .inr (7, [.int 0, .ref m124, .int 0, .int (-1), .int 0, .int 0, .int 0, .ref m225, .int 0, .int 0, .ref m326, .ref m427, .ref m528, .ref m629, .ref m730, .ref m831, .ref m932, .int 0, .ref m1033, .ref m1134, .ref m1235, .int 0, .ref m1336, .ref m1437, .ref m1538, .int 0, .ref m1639, .int 0, .int 0])), (m124, .inl (cI40, 1200, .inl f041))] := hD
  have hK : va_K (dC, dI) vwCl [(cA20, .byte), (cI40, .int)] s := hK
  have hw : r1 = 1 := hw
  subst hw
  refine lv_aload_n hx hb dL_law_235 rfl (lv_at hl 1 rfl) ?_
  have hPc := hP.sub (ws' := [(q22, .inr (7, [.int 0, .ref m124, .int 0, .int (-1), .int 0, .int 0, .int 0, .ref m225, .int 0, .int 0, .ref m326, .ref m427, .ref m528, .ref m629, .ref m730, .ref m831, .ref m932, .int 0, .ref m1033, .ref m1134, .ref m1235, .int 0, .ref m1336, .ref m1437, .ref m1538, .int 0, .ref m1639, .int 0, .int 0]))]) [3] rfl
  have hDc := hD.sub (ws' := [(q22, .inr (7, [.int 0, .ref m124, .int 0, .int (-1), .int 0, .int 0, .int 0, .ref m225, .int 0, .int 0, .ref m326, .ref m427, .ref m528, .ref m629, .ref m730, .ref m831, .ref m932, .int 0, .ref m1033, .ref m1134, .ref m1235, .int 0, .ref m1336, .ref m1437, .ref m1538, .int 0, .ref m1639, .int 0, .int 0]))]) [3] (by decide) rfl
  have hKc := hK.sub (tys' := []) [] rfl
  have hFc := va_free (wc := [(q22, .inr (7, [.int 0, .ref m124, .int 0, .int (-1), .int 0, .int 0, .int 0, .ref m225, .int 0, .int 0, .ref m326, .ref m427, .ref m528, .ref m629, .ref m730, .ref m831, .ref m932, .int 0, .ref m1033, .ref m1134, .ref m1235, .int 0, .ref m1336, .ref m1437, .ref m1538, .int 0, .ref m1639, .int 0, .int 0]))]) hD hS hA [3] rfl
  refine va_calli (va_runV (As := []) (rest := [.int 1]) ⟨hx, hb, hml, hown, hts⟩ (c_X7_read l dC dI H.size q22 m124 m225 m326 m427 m528 m629 m730 m831 m932 m1033 m1134 m1235 m1336 m1437 m1538 m1639) (cwV 0 hts gg_RL_34 rfl rfl rfl (by decide +kernel) ⟨Nat.le_of_ble_eq_true rfl, Nat.le_of_ble_eq_true rfl⟩) ⟨fun a U g mk q => by obtain ⟨q0, q1, qP, qK, qD⟩ := q; exact ⟨q0, q1, qP, va_K.moved (u := U) (U := U.calling g mk a) (Vm.Alike.refl U.vm) qK, qD⟩, va_recv hK hP (ci := 7) (q0 := 3) rfl rfl, fun U hU hW => ⟨rfl, by rw [hU], by rw [hU]; exact hPc, va_K.moved hW.alike hKc, hDc.weaken (fun _ _ _ _ => trivial)⟩⟩ rfl rfl hl.1 rfl (lv_room (Nat.le_of_ble_eq_true rfl)) dL_law_236 ⟨Nat.le_of_ble_eq_true rfl, Nat.le_of_ble_eq_true rfl⟩) hS (fun q _ h => hFc q h) hFc (fun r2 u t H1 locs ht hvm hw hB hz1 hk1 hS => ?_)
  obtain ⟨hP1, hK1, hD1⟩ := hB
  rw [ht] at hP1
  have hK1 := va_K.moved hvm.symm hK1
  obtain ⟨hP, hD⟩ := va_join (wr := [(ya8, .inl (cA20, 1200, .inl f021)), (a57, .inr (5, [.ref h417, .ref b518, .int 0])), (b518, .inr (0, [.ref yc19, .int 0])), (m124, .inl (cI40, 1200, .inl f041))]) (w1 := []) hP hD [3] [0, 1, 2, 4] rfl rfl (by decide) (by decide) hk1 hFc hP1 hD1
  have hK := (hK.sub (tys' := [(cA20, .byte), (cI40, .int)]) [0, 1] rfl).app hK1
  generalize H1 = H at hP hS ⊢
  have hP : va_P (dC, dI) vwCl [(ya8, .inl (cA20, 1200, .inl f021)), (a57, .inr (5, [.ref h417, .ref b518, .int 0])), (b518, .inr (0, [.ref yc19, .int 0])), (m124, .inl (cI40, 1200, .inl f041))] H := hP
  have hD : va_D (fun q : Nat => s.heap.size ≤ q) [(ya8, .inl (cA20, 1200, .inl f021)), (a57, .inr (5, [.ref h417, .ref b518, .int 0])), (b518, .inr (0, [.ref yc19, .int 0])), (m124, .inl (cI40, 1200, .inl f041))] := hD
  have hK : va_K (dC, dI) vwCl [(cA20, .byte), (cI40, .int)] s := hK
  have hw : r2 = 1 := hw
  subst hw
  refine lv_icmp_eq (tgt := 600) hx hb dL_law_239 (by decide) (fun c_239 => ?_) (fun c_239 => absurd (rfl) c_239)
  exact law_end C0 hS (lv_sub hl [3, 0] rfl)

set_option maxHeartbeats 4000000 in
set_option maxRecDepth 100000 in
theorem law_where {p : Program} {l : Launch} {e : Env} {s : State} {m : MethodId} {below : List Frame} {meth : Method} {c : Code} {b : Nat} {xs : Nat → Int32} (C0 : lw_At p s m meth c b 4 xs) {dC : Nat → ClassId} {dI : Nat → Nat → Nat} {q1 a13 a24 a35 a46 a57 ya8 b29 t110 t211 t312 yb13 h114 h215 h316 h417 b518 yc19 q22 m124 m225 m326 m427 m528 m629 m730 m831 m932 m1033 m1134 m1235 m1336 m1437 m1538 m1639 : Nat} {cA20 cI40 : ClassId} {f021 f041 : Nat → Int32} {H : Heap} {locs : List Loc} (hK : va_K (dC, dI) vwCl [(cA20, .byte), (cI40, .int)] s) (hP : va_P (dC, dI) vwCl [(q1, .inr (6, [.ref a13, .ref a24, .ref a35, .ref a46, .ref a57, .int (-1), .int 0])), (a13, .inr (0, [.ref ya8, .int 0])), (ya8, .inl (cA20, 1200, .inl f021)), (a24, .inr (3, [.ref b29, .ref t110, .ref t211, .ref t312, .int 0])), (b29, .inr (0, [.ref yb13, .int 0])), (a35, .inr (1, [.ref h114, .ref h215, .ref h316, .int 0, .int 0, .int 0])), (a57, .inr (5, [.ref h417, .ref b518, .int 0])), (b518, .inr (0, [.ref yc19, .int 0])), (q22, .inr (7, [.int 0, .ref m124, .int 0, .int (-1), .int 0, .int 0, .int 0, .ref m225, .int 0, .int 0, .ref m326, .ref m427, .ref m528, .ref m629, .ref m730, .ref m831, .ref m932, .int 0, .ref m1033, .ref m1134, .ref m1235, .int 0, .ref m1336, .ref m1437, .ref m1538, .int 0, .ref m1639, .int 0, .int 0])), (m124, .inl (cI40, 1200, .inl f041))] H) (hD : va_D (fun q : Nat => s.heap.size ≤ q) [(q1, .inr (6, [.ref a13, .ref a24, .ref a35, .ref a46, .ref a57, .int (-1), .int 0])), (a13, .inr (0, [.ref ya8, .int 0])), (ya8, .inl (cA20, 1200, .inl f021)), (a24, .inr (3, [.ref b29, .ref t110, .ref t211, .ref t312, .int 0])), (b29, .inr (0, [.ref yb13, .int 0])), (a35, .inr (1, [.ref h114, .ref h215, .ref h316, .int 0, .int 0, .int 0])), (a57, .inr (5, [.ref h417, .ref b518, .int 0])), (b518, .inr (0, [.ref yc19, .int 0])), (q22, .inr (7, [.int 0, .ref m124, .int 0, .int (-1), .int 0, .int 0, .int 0, .ref m225, .int 0, .int 0, .ref m326, .ref m427, .ref m528, .ref m629, .ref m730, .ref m831, .ref m932, .int 0, .ref m1033, .ref m1134, .ref m1235, .int 0, .ref m1336, .ref m1437, .ref m1538, .int 0, .ref m1639, .int 0, .int 0])), (m124, .inl (cI40, 1200, .inl f041))]) (hS : va_S (fun q : Nat => s.heap.size ≤ q) s.heap H locs) {ls : Array Slot} (hl : lv_has ls 4 [(3, .int 0), (2, .ref q22), (1, .ref q1), (0, .ref b)]) : W p l e room_1 s m #[Value.ref b] below meth c H locs 40 14459 (lw_Z below #[Value.ref b] s) (F0 m 244 ls []) := by
  obtain ⟨hx, hb, hr, hml, hown0, hts0, hX, hbl, hlocks, hgv⟩ := id C0
  have hown : s.vm.findClass RL = some m.cls := hown0
  have hts : ∀ w ∈ pwAll, w.before #[Value.ref b] s = true := fun w h => hts0 w (pwAll_in w h)
  have hA : ∀ q : Nat, s.heap.size ≤ q → (fun q : Nat => s.heap.size ≤ q) q := fun _ h => h
  have hbA : ¬ (fun q : Nat => s.heap.size ≤ q) b := Nat.not_le.mpr hbl
  refine lv_aload_n hx hb dL_law_244 rfl (lv_at hl 2 rfl) ?_
  have hPc := hP.sub (ws' := [(q1, .inr (6, [.ref a13, .ref a24, .ref a35, .ref a46, .ref a57, .int (-1), .int 0]))]) [0] rfl
  have hDc := hD.sub (ws' := [(q1, .inr (6, [.ref a13, .ref a24, .ref a35, .ref a46, .ref a57, .int (-1), .int 0]))]) [0] (by decide) rfl
  have hKc := hK.sub (tys' := []) [] rfl
  have hFc := va_free (wc := [(q1, .inr (6, [.ref a13, .ref a24, .ref a35, .ref a46, .ref a57, .int (-1), .int 0]))]) hD hS hA [0] rfl
  refine va_calli (va_runV (As := []) (rest := []) ⟨hx, hb, hml, hown, hts⟩ (c_X6_where l dC dI H.size q1 a13 a24 a35 a46 a57) (cwV 0 hts gg_RL_35 rfl rfl rfl (by decide +kernel) ⟨Nat.le_of_ble_eq_true rfl, Nat.le_of_ble_eq_true rfl⟩) ⟨fun a U g mk q => by obtain ⟨q0, q1, qP, qK, qD⟩ := q; exact ⟨q0, q1, qP, va_K.moved (u := U) (U := U.calling g mk a) (Vm.Alike.refl U.vm) qK, qD⟩, va_recv hK hP (ci := 6) (q0 := 0) rfl rfl, fun U hU hW => ⟨rfl, by rw [hU], by rw [hU]; exact hPc, va_K.moved hW.alike hKc, hDc.weaken (fun _ _ _ _ => trivial)⟩⟩ rfl rfl hl.1 rfl (lv_room (Nat.le_of_ble_eq_true rfl)) dL_law_245 ⟨Nat.le_of_ble_eq_true rfl, Nat.le_of_ble_eq_true rfl⟩) hS (fun q _ h => hFc q h) hFc (fun r1 u t H1 locs ht hvm hw hB hz1 hk1 hS => ?_)
  obtain ⟨hP1, hK1, hD1⟩ := hB
  rw [ht] at hP1
  have hK1 := va_K.moved hvm.symm hK1
  obtain ⟨hP, hD⟩ := va_join (wr := [(a13, .inr (0, [.ref ya8, .int 0])), (ya8, .inl (cA20, 1200, .inl f021)), (a24, .inr (3, [.ref b29, .ref t110, .ref t211, .ref t312, .int 0])), (b29, .inr (0, [.ref yb13, .int 0])), (a35, .inr (1, [.ref h114, .ref h215, .ref h316, .int 0, .int 0, .int 0])), (a57, .inr (5, [.ref h417, .ref b518, .int 0])), (b518, .inr (0, [.ref yc19, .int 0])), (q22, .inr (7, [.int 0, .ref m124, .int 0, .int (-1), .int 0, .int 0, .int 0, .ref m225, .int 0, .int 0, .ref m326, .ref m427, .ref m528, .ref m629, .ref m730, .ref m831, .ref m932, .int 0, .ref m1033, .ref m1134, .ref m1235, .int 0, .ref m1336, .ref m1437, .ref m1538, .int 0, .ref m1639, .int 0, .int 0])), (m124, .inl (cI40, 1200, .inl f041))]) (w1 := []) hP hD [0] [1, 2, 3, 4, 5, 6, 7, 8, 9] rfl rfl (by decide) (by decide) hk1 hFc hP1 hD1
  have hK := (hK.sub (tys' := [(cA20, .byte), (cI40, .int)]) [0, 1] rfl).app hK1
  generalize H1 = H at hP hS ⊢
  have hP : va_P (dC, dI) vwCl [(a13, .inr (0, [.ref ya8, .int 0])), (ya8, .inl (cA20, 1200, .inl f021)), (a24, .inr (3, [.ref b29, .ref t110, .ref t211, .ref t312, .int 0])), (b29, .inr (0, [.ref yb13, .int 0])), (a35, .inr (1, [.ref h114, .ref h215, .ref h316, .int 0, .int 0, .int 0])), (a57, .inr (5, [.ref h417, .ref b518, .int 0])), (b518, .inr (0, [.ref yc19, .int 0])), (q22, .inr (7, [.int 0, .ref m124, .int 0, .int (-1), .int 0, .int 0, .int 0, .ref m225, .int 0, .int 0, .ref m326, .ref m427, .ref m528, .ref m629, .ref m730, .ref m831, .ref m932, .int 0, .ref m1033, .ref m1134, .ref m1235, .int 0, .ref m1336, .ref m1437, .ref m1538, .int 0, .ref m1639, .int 0, .int 0])), (m124, .inl (cI40, 1200, .inl f041))] H := hP
  have hD : va_D (fun q : Nat => s.heap.size ≤ q) [(a13, .inr (0, [.ref ya8, .int 0])), (ya8, .inl (cA20, 1200, .inl f021)), (a24, .inr (3, [.ref b29, .ref t110, .ref t211, .ref t312, .int 0])), (b29, .inr (0, [.ref yb13, .int 0])), (a35, .inr (1, [.ref h114, .ref h215, .ref h316, .int 0, .int 0, .int 0])), (a57, .inr (5, [.ref h417, .ref b518, .int 0])), (b518, .inr (0, [.ref yc19, .int 0])), (q22, .inr (7, [.int 0, .ref m124, .int 0, .int (-1), .int 0, .int 0, .int 0, .ref m225, .int 0, .int 0, .ref m326, .ref m427, .ref m528, .ref m629, .ref m730, .ref m831, .ref m932, .int 0, .ref m1033, .ref m1134, .ref m1235, .int 0, .ref m1336, .ref m1437, .ref m1538, .int 0, .ref m1639, .int 0, .int 0])), (m124, .inl (cI40, 1200, .inl f041))] := hD
  have hK : va_K (dC, dI) vwCl [(cA20, .byte), (cI40, .int)] s := hK
  have hw : r1 = (-1) := hw
  subst hw
  refine lv_aload_n hx hb dL_law_248 rfl (lv_at hl 1 rfl) ?_
  have hPc := hP.sub (ws' := [(q22, .inr (7, [.int 0, .ref m124, .int 0, .int (-1), .int 0, .int 0, .int 0, .ref m225, .int 0, .int 0, .ref m326, .ref m427, .ref m528, .ref m629, .ref m730, .ref m831, .ref m932, .int 0, .ref m1033, .ref m1134, .ref m1235, .int 0, .ref m1336, .ref m1437, .ref m1538, .int 0, .ref m1639, .int 0, .int 0]))]) [7] rfl
  have hDc := hD.sub (ws' := [(q22, .inr (7, [.int 0, .ref m124, .int 0, .int (-1), .int 0, .int 0, .int 0, .ref m225, .int 0, .int 0, .ref m326, .ref m427, .ref m528, .ref m629, .ref m730, .ref m831, .ref m932, .int 0, .ref m1033, .ref m1134, .ref m1235, .int 0, .ref m1336, .ref m1437, .ref m1538, .int 0, .ref m1639, .int 0, .int 0]))]) [7] (by decide) rfl
  have hKc := hK.sub (tys' := []) [] rfl
  have hFc := va_free (wc := [(q22, .inr (7, [.int 0, .ref m124, .int 0, .int (-1), .int 0, .int 0, .int 0, .ref m225, .int 0, .int 0, .ref m326, .ref m427, .ref m528, .ref m629, .ref m730, .ref m831, .ref m932, .int 0, .ref m1033, .ref m1134, .ref m1235, .int 0, .ref m1336, .ref m1437, .ref m1538, .int 0, .ref m1639, .int 0, .int 0]))]) hD hS hA [7] rfl
  refine va_calli (va_runV (As := []) (rest := [.int (-1)]) ⟨hx, hb, hml, hown, hts⟩ (c_X7_where l dC dI H.size q22 m124 m225 m326 m427 m528 m629 m730 m831 m932 m1033 m1134 m1235 m1336 m1437 m1538 m1639) (cwV 0 hts gg_RL_38 rfl rfl rfl (by decide +kernel) ⟨Nat.le_of_ble_eq_true rfl, Nat.le_of_ble_eq_true rfl⟩) ⟨fun a U g mk q => by obtain ⟨q0, q1, qP, qK, qD⟩ := q; exact ⟨q0, q1, qP, va_K.moved (u := U) (U := U.calling g mk a) (Vm.Alike.refl U.vm) qK, qD⟩, va_recv hK hP (ci := 7) (q0 := 7) rfl rfl, fun U hU hW => ⟨rfl, by rw [hU], by rw [hU]; exact hPc, va_K.moved hW.alike hKc, hDc.weaken (fun _ _ _ _ => trivial)⟩⟩ rfl rfl hl.1 rfl (lv_room (Nat.le_of_ble_eq_true rfl)) dL_law_249 ⟨Nat.le_of_ble_eq_true rfl, Nat.le_of_ble_eq_true rfl⟩) hS (fun q _ h => hFc q h) hFc (fun r2 u t H1 locs ht hvm hw hB hz1 hk1 hS => ?_)
  obtain ⟨hP1, hK1, hD1⟩ := hB
  rw [ht] at hP1
  have hK1 := va_K.moved hvm.symm hK1
  obtain ⟨hP, hD⟩ := va_join (wr := [(a13, .inr (0, [.ref ya8, .int 0])), (ya8, .inl (cA20, 1200, .inl f021)), (a24, .inr (3, [.ref b29, .ref t110, .ref t211, .ref t312, .int 0])), (b29, .inr (0, [.ref yb13, .int 0])), (a35, .inr (1, [.ref h114, .ref h215, .ref h316, .int 0, .int 0, .int 0])), (a57, .inr (5, [.ref h417, .ref b518, .int 0])), (b518, .inr (0, [.ref yc19, .int 0])), (m124, .inl (cI40, 1200, .inl f041))]) (w1 := []) hP hD [7] [0, 1, 2, 3, 4, 5, 6, 8] rfl rfl (by decide) (by decide) hk1 hFc hP1 hD1
  have hK := (hK.sub (tys' := [(cA20, .byte), (cI40, .int)]) [0, 1] rfl).app hK1
  generalize H1 = H at hP hS ⊢
  have hP : va_P (dC, dI) vwCl [(a13, .inr (0, [.ref ya8, .int 0])), (ya8, .inl (cA20, 1200, .inl f021)), (a24, .inr (3, [.ref b29, .ref t110, .ref t211, .ref t312, .int 0])), (b29, .inr (0, [.ref yb13, .int 0])), (a35, .inr (1, [.ref h114, .ref h215, .ref h316, .int 0, .int 0, .int 0])), (a57, .inr (5, [.ref h417, .ref b518, .int 0])), (b518, .inr (0, [.ref yc19, .int 0])), (m124, .inl (cI40, 1200, .inl f041))] H := hP
  have hD : va_D (fun q : Nat => s.heap.size ≤ q) [(a13, .inr (0, [.ref ya8, .int 0])), (ya8, .inl (cA20, 1200, .inl f021)), (a24, .inr (3, [.ref b29, .ref t110, .ref t211, .ref t312, .int 0])), (b29, .inr (0, [.ref yb13, .int 0])), (a35, .inr (1, [.ref h114, .ref h215, .ref h316, .int 0, .int 0, .int 0])), (a57, .inr (5, [.ref h417, .ref b518, .int 0])), (b518, .inr (0, [.ref yc19, .int 0])), (m124, .inl (cI40, 1200, .inl f041))] := hD
  have hK : va_K (dC, dI) vwCl [(cA20, .byte), (cI40, .int)] s := hK
  have hw : r2 = (-1) := hw
  subst hw
  refine lv_icmp_eq (tgt := 600) hx hb dL_law_252 (by decide) (fun c_252 => ?_) (fun c_252 => absurd (rfl) c_252)
  exact law_end C0 hS (lv_sub hl [3, 0] rfl)

set_option maxHeartbeats 4000000 in
set_option maxRecDepth 100000 in
theorem law_count {p : Program} {l : Launch} {e : Env} {s : State} {m : MethodId} {below : List Frame} {meth : Method} {c : Code} {b : Nat} {xs : Nat → Int32} (C0 : lw_At p s m meth c b 4 xs) {dC : Nat → ClassId} {dI : Nat → Nat → Nat} {q1 a13 a24 a35 a46 a57 ya8 b29 t110 t211 t312 yb13 h114 h215 h316 h417 b518 yc19 q22 m124 m225 m326 m427 m528 m629 m730 m831 m932 m1033 m1134 m1235 m1336 m1437 m1538 m1639 : Nat} {cA20 cI40 : ClassId} {f021 f041 : Nat → Int32} {H : Heap} {locs : List Loc} (hK : va_K (dC, dI) vwCl [(cA20, .byte), (cI40, .int)] s) (hP : va_P (dC, dI) vwCl [(q1, .inr (6, [.ref a13, .ref a24, .ref a35, .ref a46, .ref a57, .int (-1), .int 0])), (a13, .inr (0, [.ref ya8, .int 0])), (ya8, .inl (cA20, 1200, .inl f021)), (a24, .inr (3, [.ref b29, .ref t110, .ref t211, .ref t312, .int 0])), (b29, .inr (0, [.ref yb13, .int 0])), (a35, .inr (1, [.ref h114, .ref h215, .ref h316, .int 0, .int 0, .int 0])), (a57, .inr (5, [.ref h417, .ref b518, .int 0])), (b518, .inr (0, [.ref yc19, .int 0])), (q22, .inr (7, [.int 0, .ref m124, .int 0, .int (-1), .int 0, .int 0, .int 0, .ref m225, .int 0, .int 0, .ref m326, .ref m427, .ref m528, .ref m629, .ref m730, .ref m831, .ref m932, .int 0, .ref m1033, .ref m1134, .ref m1235, .int 0, .ref m1336, .ref m1437, .ref m1538, .int 0, .ref m1639, .int 0, .int 0])), (m124, .inl (cI40, 1200, .inl f041))] H) (hD : va_D (fun q : Nat => s.heap.size ≤ q) [(q1, .inr (6, [.ref a13, .ref a24, .ref a35, .ref a46, .ref a57, .int (-1), .int 0])), (a13, .inr (0, [.ref ya8, .int 0])), (ya8, .inl (cA20, 1200, .inl f021)), (a24, .inr (3, [.ref b29, .ref t110, .ref t211, .ref t312, .int 0])), (b29, .inr (0, [.ref yb13, .int 0])), (a35, .inr (1, [.ref h114, .ref h215, .ref h316, .int 0, .int 0, .int 0])), (a57, .inr (5, [.ref h417, .ref b518, .int 0])), (b518, .inr (0, [.ref yc19, .int 0])), (q22, .inr (7, [.int 0, .ref m124, .int 0, .int (-1), .int 0, .int 0, .int 0, .ref m225, .int 0, .int 0, .ref m326, .ref m427, .ref m528, .ref m629, .ref m730, .ref m831, .ref m932, .int 0, .ref m1033, .ref m1134, .ref m1235, .int 0, .ref m1336, .ref m1437, .ref m1538, .int 0, .ref m1639, .int 0, .int 0])), (m124, .inl (cI40, 1200, .inl f041))]) (hS : va_S (fun q : Nat => s.heap.size ≤ q) s.heap H locs) {ls : Array Slot} (hl : lv_has ls 4 [(3, .int 0), (2, .ref q22), (1, .ref q1), (0, .ref b)]) : W p l e room_1 s m #[Value.ref b] below meth c H locs 40 14459 (lw_Z below #[Value.ref b] s) (F0 m 257 ls []) := by
  obtain ⟨hx, hb, hr, hml, hown0, hts0, hX, hbl, hlocks, hgv⟩ := id C0
  have hown : s.vm.findClass RL = some m.cls := hown0
  have hts : ∀ w ∈ pwAll, w.before #[Value.ref b] s = true := fun w h => hts0 w (pwAll_in w h)
  have hA : ∀ q : Nat, s.heap.size ≤ q → (fun q : Nat => s.heap.size ≤ q) q := fun _ h => h
  have hbA : ¬ (fun q : Nat => s.heap.size ≤ q) b := Nat.not_le.mpr hbl
  refine lv_aload_n hx hb dL_law_257 rfl (lv_at hl 2 rfl) ?_
  refine lv_aload_n hx hb dL_law_258 rfl (lv_at hl 3 rfl) ?_
  refine lv_iload_n hx hb dL_law_259 rfl (lv_at hl 0 rfl) ?_
  refine lv_iconst (v := 1) hx hb dL_law_260 (by decide) ?_
  refine lv_iadd hx hb dL_law_261 ?_
  refine pf_top (y := 1) (by decide) ?_
  refine va_sld hx hb hX hbl hbA hS pf_i1 dL_law_262 ?_
  have hPc := hP.sub (ws' := [(q1, .inr (6, [.ref a13, .ref a24, .ref a35, .ref a46, .ref a57, .int (-1), .int 0])), (a13, .inr (0, [.ref ya8, .int 0])), (a57, .inr (5, [.ref h417, .ref b518, .int 0])), (b518, .inr (0, [.ref yc19, .int 0]))]) [0, 1, 6, 7] rfl
  have hDc := hD.sub (ws' := [(q1, .inr (6, [.ref a13, .ref a24, .ref a35, .ref a46, .ref a57, .int (-1), .int 0])), (a13, .inr (0, [.ref ya8, .int 0])), (a57, .inr (5, [.ref h417, .ref b518, .int 0])), (b518, .inr (0, [.ref yc19, .int 0]))]) [0, 1, 6, 7] (by decide) rfl
  have hKc := hK.sub (tys' := []) [] rfl
  have hFc := va_free (wc := [(q1, .inr (6, [.ref a13, .ref a24, .ref a35, .ref a46, .ref a57, .int (-1), .int 0])), (a13, .inr (0, [.ref ya8, .int 0])), (a57, .inr (5, [.ref h417, .ref b518, .int 0])), (b518, .inr (0, [.ref yc19, .int 0]))]) hD hS hA [0, 1, 6, 7] rfl
  refine va_calli (va_runV (As := [.int (xs (1 : Int32).toNatClampNeg)]) (rest := []) ⟨hx, hb, hml, hown, hts⟩ (c_X6_count l dC dI H.size q1 a13 a24 a35 a46 a57 ya8 h417 b518 yc19 (xs (1 : Int32).toNatClampNeg)) (cwV 1 hts gg_RL_39 rfl rfl rfl (by decide +kernel) ⟨Nat.le_of_ble_eq_true rfl, Nat.le_of_ble_eq_true rfl⟩) ⟨fun a U g mk q => by obtain ⟨q0, q1, qP, qK, qD⟩ := q; exact ⟨q0, q1, qP, va_K.moved (u := U) (U := U.calling g mk a) (Vm.Alike.refl U.vm) qK, qD⟩, va_recv hK hP (ci := 6) (q0 := 0) rfl rfl, fun U hU hW => ⟨rfl, by rw [hU], by rw [hU]; exact hPc, va_K.moved hW.alike hKc, hDc.weaken (fun _ _ _ _ => trivial)⟩⟩ rfl rfl hl.1 rfl (lv_room (Nat.le_of_ble_eq_true rfl)) dL_law_263 ⟨Nat.le_of_ble_eq_true rfl, Nat.le_of_ble_eq_true rfl⟩) hS (fun q _ h => hFc q h) hFc (fun r1 u t H1 locs ht hvm hw hB hz1 hk1 hS => ?_)
  obtain ⟨hP1, hK1, hD1⟩ := hB
  rw [ht] at hP1
  have hK1 := va_K.moved hvm.symm hK1
  obtain ⟨hP, hD⟩ := va_join (wr := [(ya8, .inl (cA20, 1200, .inl f021)), (a24, .inr (3, [.ref b29, .ref t110, .ref t211, .ref t312, .int 0])), (b29, .inr (0, [.ref yb13, .int 0])), (a35, .inr (1, [.ref h114, .ref h215, .ref h316, .int 0, .int 0, .int 0])), (q22, .inr (7, [.int 0, .ref m124, .int 0, .int (-1), .int 0, .int 0, .int 0, .ref m225, .int 0, .int 0, .ref m326, .ref m427, .ref m528, .ref m629, .ref m730, .ref m831, .ref m932, .int 0, .ref m1033, .ref m1134, .ref m1235, .int 0, .ref m1336, .ref m1437, .ref m1538, .int 0, .ref m1639, .int 0, .int 0])), (m124, .inl (cI40, 1200, .inl f041))]) (w1 := []) hP hD [0, 1, 6, 7] [2, 3, 4, 5, 8, 9] rfl rfl (by decide) (by decide) hk1 hFc hP1 hD1
  have hK := (hK.sub (tys' := [(cA20, .byte), (cI40, .int)]) [0, 1] rfl).app hK1
  generalize H1 = H at hP hS ⊢
  have hP : va_P (dC, dI) vwCl [(ya8, .inl (cA20, 1200, .inl f021)), (a24, .inr (3, [.ref b29, .ref t110, .ref t211, .ref t312, .int 0])), (b29, .inr (0, [.ref yb13, .int 0])), (a35, .inr (1, [.ref h114, .ref h215, .ref h316, .int 0, .int 0, .int 0])), (q22, .inr (7, [.int 0, .ref m124, .int 0, .int (-1), .int 0, .int 0, .int 0, .ref m225, .int 0, .int 0, .ref m326, .ref m427, .ref m528, .ref m629, .ref m730, .ref m831, .ref m932, .int 0, .ref m1033, .ref m1134, .ref m1235, .int 0, .ref m1336, .ref m1437, .ref m1538, .int 0, .ref m1639, .int 0, .int 0])), (m124, .inl (cI40, 1200, .inl f041))] H := hP
  have hD : va_D (fun q : Nat => s.heap.size ≤ q) [(ya8, .inl (cA20, 1200, .inl f021)), (a24, .inr (3, [.ref b29, .ref t110, .ref t211, .ref t312, .int 0])), (b29, .inr (0, [.ref yb13, .int 0])), (a35, .inr (1, [.ref h114, .ref h215, .ref h316, .int 0, .int 0, .int 0])), (q22, .inr (7, [.int 0, .ref m124, .int 0, .int (-1), .int 0, .int 0, .int 0, .ref m225, .int 0, .int 0, .ref m326, .ref m427, .ref m528, .ref m629, .ref m730, .ref m831, .ref m932, .int 0, .ref m1033, .ref m1134, .ref m1235, .int 0, .ref m1336, .ref m1437, .ref m1538, .int 0, .ref m1639, .int 0, .int 0])), (m124, .inl (cI40, 1200, .inl f041))] := hD
  have hK : va_K (dC, dI) vwCl [(cA20, .byte), (cI40, .int)] s := hK
  have hw : r1 = pf_count (xs (1 : Int32).toNatClampNeg) := hw
  subst hw
  refine lv_aload_n hx hb dL_law_266 rfl (lv_at hl 1 rfl) ?_
  refine lv_aload_n hx hb dL_law_267 rfl (lv_at hl 3 rfl) ?_
  refine lv_iload_n hx hb dL_law_268 rfl (lv_at hl 0 rfl) ?_
  refine lv_iconst (v := 1) hx hb dL_law_269 (by decide) ?_
  refine lv_iadd hx hb dL_law_270 ?_
  refine pf_top (y := 1) (by decide) ?_
  refine va_sld hx hb hX hbl hbA hS pf_i1 dL_law_271 ?_
  have hPc := hP.sub (ws' := [(q22, .inr (7, [.int 0, .ref m124, .int 0, .int (-1), .int 0, .int 0, .int 0, .ref m225, .int 0, .int 0, .ref m326, .ref m427, .ref m528, .ref m629, .ref m730, .ref m831, .ref m932, .int 0, .ref m1033, .ref m1134, .ref m1235, .int 0, .ref m1336, .ref m1437, .ref m1538, .int 0, .ref m1639, .int 0, .int 0]))]) [4] rfl
  have hDc := hD.sub (ws' := [(q22, .inr (7, [.int 0, .ref m124, .int 0, .int (-1), .int 0, .int 0, .int 0, .ref m225, .int 0, .int 0, .ref m326, .ref m427, .ref m528, .ref m629, .ref m730, .ref m831, .ref m932, .int 0, .ref m1033, .ref m1134, .ref m1235, .int 0, .ref m1336, .ref m1437, .ref m1538, .int 0, .ref m1639, .int 0, .int 0]))]) [4] (by decide) rfl
  have hKc := hK.sub (tys' := []) [] rfl
  have hFc := va_free (wc := [(q22, .inr (7, [.int 0, .ref m124, .int 0, .int (-1), .int 0, .int 0, .int 0, .ref m225, .int 0, .int 0, .ref m326, .ref m427, .ref m528, .ref m629, .ref m730, .ref m831, .ref m932, .int 0, .ref m1033, .ref m1134, .ref m1235, .int 0, .ref m1336, .ref m1437, .ref m1538, .int 0, .ref m1639, .int 0, .int 0]))]) hD hS hA [4] rfl
  refine va_calli (va_runV (As := [.int (xs (1 : Int32).toNatClampNeg)]) (rest := [.int (pf_count (xs (1 : Int32).toNatClampNeg))]) ⟨hx, hb, hml, hown, hts⟩ (c_X7_count l dC dI H.size q22 m124 m225 m326 m427 m528 m629 m730 m831 m932 m1033 m1134 m1235 m1336 m1437 m1538 m1639 (xs (1 : Int32).toNatClampNeg)) (cwV 1 hts gg_RL_42 rfl rfl rfl (by decide +kernel) ⟨Nat.le_of_ble_eq_true rfl, Nat.le_of_ble_eq_true rfl⟩) ⟨fun a U g mk q => by obtain ⟨q0, q1, qP, qK, qD⟩ := q; exact ⟨q0, q1, qP, va_K.moved (u := U) (U := U.calling g mk a) (Vm.Alike.refl U.vm) qK, qD⟩, va_recv hK hP (ci := 7) (q0 := 4) rfl rfl, fun U hU hW => ⟨rfl, by rw [hU], by rw [hU]; exact hPc, va_K.moved hW.alike hKc, hDc.weaken (fun _ _ _ _ => trivial)⟩⟩ rfl rfl hl.1 rfl (lv_room (Nat.le_of_ble_eq_true rfl)) dL_law_272 ⟨Nat.le_of_ble_eq_true rfl, Nat.le_of_ble_eq_true rfl⟩) hS (fun q _ h => hFc q h) hFc (fun r2 u t H1 locs ht hvm hw hB hz1 hk1 hS => ?_)
  obtain ⟨hP1, hK1, hD1⟩ := hB
  rw [ht] at hP1
  have hK1 := va_K.moved hvm.symm hK1
  obtain ⟨hP, hD⟩ := va_join (wr := [(ya8, .inl (cA20, 1200, .inl f021)), (a24, .inr (3, [.ref b29, .ref t110, .ref t211, .ref t312, .int 0])), (b29, .inr (0, [.ref yb13, .int 0])), (a35, .inr (1, [.ref h114, .ref h215, .ref h316, .int 0, .int 0, .int 0])), (m124, .inl (cI40, 1200, .inl f041))]) (w1 := []) hP hD [4] [0, 1, 2, 3, 5] rfl rfl (by decide) (by decide) hk1 hFc hP1 hD1
  have hK := (hK.sub (tys' := [(cA20, .byte), (cI40, .int)]) [0, 1] rfl).app hK1
  generalize H1 = H at hP hS ⊢
  have hP : va_P (dC, dI) vwCl [(ya8, .inl (cA20, 1200, .inl f021)), (a24, .inr (3, [.ref b29, .ref t110, .ref t211, .ref t312, .int 0])), (b29, .inr (0, [.ref yb13, .int 0])), (a35, .inr (1, [.ref h114, .ref h215, .ref h316, .int 0, .int 0, .int 0])), (m124, .inl (cI40, 1200, .inl f041))] H := hP
  have hD : va_D (fun q : Nat => s.heap.size ≤ q) [(ya8, .inl (cA20, 1200, .inl f021)), (a24, .inr (3, [.ref b29, .ref t110, .ref t211, .ref t312, .int 0])), (b29, .inr (0, [.ref yb13, .int 0])), (a35, .inr (1, [.ref h114, .ref h215, .ref h316, .int 0, .int 0, .int 0])), (m124, .inl (cI40, 1200, .inl f041))] := hD
  have hK : va_K (dC, dI) vwCl [(cA20, .byte), (cI40, .int)] s := hK
  have hw : r2 = pf_count (xs (1 : Int32).toNatClampNeg) := hw
  subst hw
  refine lv_icmp_eq (tgt := 600) hx hb dL_law_275 (by decide) (fun c_275 => ?_) (fun c_275 => absurd (rfl) c_275)
  exact law_end C0 hS (lv_sub hl [3, 0] rfl)

set_option maxHeartbeats 4000000 in
set_option maxRecDepth 100000 in
theorem law_group {p : Program} {l : Launch} {e : Env} {s : State} {m : MethodId} {below : List Frame} {meth : Method} {c : Code} {b : Nat} {xs : Nat → Int32} (C0 : lw_At p s m meth c b 4 xs) {dC : Nat → ClassId} {dI : Nat → Nat → Nat} {q1 a13 a24 a35 a46 a57 ya8 b29 t110 t211 t312 yb13 h114 h215 h316 h417 b518 yc19 q22 m124 m225 m326 m427 m528 m629 m730 m831 m932 m1033 m1134 m1235 m1336 m1437 m1538 m1639 : Nat} {cA20 cI40 : ClassId} {f021 f041 : Nat → Int32} {H : Heap} {locs : List Loc} (hK : va_K (dC, dI) vwCl [(cA20, .byte), (cI40, .int)] s) (hP : va_P (dC, dI) vwCl [(q1, .inr (6, [.ref a13, .ref a24, .ref a35, .ref a46, .ref a57, .int (-1), .int 0])), (a13, .inr (0, [.ref ya8, .int 0])), (ya8, .inl (cA20, 1200, .inl f021)), (a24, .inr (3, [.ref b29, .ref t110, .ref t211, .ref t312, .int 0])), (b29, .inr (0, [.ref yb13, .int 0])), (a35, .inr (1, [.ref h114, .ref h215, .ref h316, .int 0, .int 0, .int 0])), (a57, .inr (5, [.ref h417, .ref b518, .int 0])), (b518, .inr (0, [.ref yc19, .int 0])), (q22, .inr (7, [.int 0, .ref m124, .int 0, .int (-1), .int 0, .int 0, .int 0, .ref m225, .int 0, .int 0, .ref m326, .ref m427, .ref m528, .ref m629, .ref m730, .ref m831, .ref m932, .int 0, .ref m1033, .ref m1134, .ref m1235, .int 0, .ref m1336, .ref m1437, .ref m1538, .int 0, .ref m1639, .int 0, .int 0])), (m124, .inl (cI40, 1200, .inl f041))] H) (hD : va_D (fun q : Nat => s.heap.size ≤ q) [(q1, .inr (6, [.ref a13, .ref a24, .ref a35, .ref a46, .ref a57, .int (-1), .int 0])), (a13, .inr (0, [.ref ya8, .int 0])), (ya8, .inl (cA20, 1200, .inl f021)), (a24, .inr (3, [.ref b29, .ref t110, .ref t211, .ref t312, .int 0])), (b29, .inr (0, [.ref yb13, .int 0])), (a35, .inr (1, [.ref h114, .ref h215, .ref h316, .int 0, .int 0, .int 0])), (a57, .inr (5, [.ref h417, .ref b518, .int 0])), (b518, .inr (0, [.ref yc19, .int 0])), (q22, .inr (7, [.int 0, .ref m124, .int 0, .int (-1), .int 0, .int 0, .int 0, .ref m225, .int 0, .int 0, .ref m326, .ref m427, .ref m528, .ref m629, .ref m730, .ref m831, .ref m932, .int 0, .ref m1033, .ref m1134, .ref m1235, .int 0, .ref m1336, .ref m1437, .ref m1538, .int 0, .ref m1639, .int 0, .int 0])), (m124, .inl (cI40, 1200, .inl f041))]) (hS : va_S (fun q : Nat => s.heap.size ≤ q) s.heap H locs) {ls : Array Slot} (hl : lv_has ls 4 [(3, .int 0), (2, .ref q22), (1, .ref q1), (0, .ref b)]) : W p l e room_1 s m #[Value.ref b] below meth c H locs 40 14459 (lw_Z below #[Value.ref b] s) (F0 m 280 ls []) := by
  obtain ⟨hx, hb, hr, hml, hown0, hts0, hX, hbl, hlocks, hgv⟩ := id C0
  have hown : s.vm.findClass RL = some m.cls := hown0
  have hts : ∀ w ∈ pwAll, w.before #[Value.ref b] s = true := fun w h => hts0 w (pwAll_in w h)
  have hA : ∀ q : Nat, s.heap.size ≤ q → (fun q : Nat => s.heap.size ≤ q) q := fun _ h => h
  have hbA : ¬ (fun q : Nat => s.heap.size ≤ q) b := Nat.not_le.mpr hbl
  refine lv_aload_n hx hb dL_law_280 rfl (lv_at hl 2 rfl) ?_
  refine lv_aload_n hx hb dL_law_281 rfl (lv_at hl 3 rfl) ?_
  refine lv_iload_n hx hb dL_law_282 rfl (lv_at hl 0 rfl) ?_
  refine lv_iconst (v := 1) hx hb dL_law_283 (by decide) ?_
  refine lv_iadd hx hb dL_law_284 ?_
  refine pf_top (y := 1) (by decide) ?_
  refine va_sld hx hb hX hbl hbA hS pf_i1 dL_law_285 ?_
  refine lv_aload_n hx hb dL_law_286 rfl (lv_at hl 3 rfl) ?_
  refine lv_iload_n hx hb dL_law_287 rfl (lv_at hl 0 rfl) ?_
  refine lv_iconst (v := 2) hx hb dL_law_288 (by decide) ?_
  refine lv_iadd hx hb dL_law_289 ?_
  refine pf_top (y := 2) (by decide) ?_
  refine va_sld hx hb hX hbl hbA hS pf_i2 dL_law_290 ?_
  have hPc := hP.sub (ws' := [(q1, .inr (6, [.ref a13, .ref a24, .ref a35, .ref a46, .ref a57, .int (-1), .int 0]))]) [0] rfl
  have hDc := hD.sub (ws' := [(q1, .inr (6, [.ref a13, .ref a24, .ref a35, .ref a46, .ref a57, .int (-1), .int 0]))]) [0] (by decide) rfl
  have hKc := hK.sub (tys' := []) [] rfl
  have hFc := va_free (wc := [(q1, .inr (6, [.ref a13, .ref a24, .ref a35, .ref a46, .ref a57, .int (-1), .int 0]))]) hD hS hA [0] rfl
  refine va_calli (va_runV (As := [.int (xs (1 : Int32).toNatClampNeg), .int (xs (2 : Int32).toNatClampNeg)]) (rest := []) ⟨hx, hb, hml, hown, hts⟩ (c_X6_group l dC dI H.size q1 a13 a24 a35 a46 a57 (xs (1 : Int32).toNatClampNeg) (xs (2 : Int32).toNatClampNeg)) (cwV 2 hts gg_RL_43 rfl rfl rfl (by decide +kernel) ⟨Nat.le_of_ble_eq_true rfl, Nat.le_of_ble_eq_true rfl⟩) ⟨fun a U g mk q => by obtain ⟨q0, q1, qP, qK, qD⟩ := q; exact ⟨q0, q1, qP, va_K.moved (u := U) (U := U.calling g mk a) (Vm.Alike.refl U.vm) qK, qD⟩, va_recv hK hP (ci := 6) (q0 := 0) rfl rfl, fun U hU hW => ⟨rfl, by rw [hU], by rw [hU]; exact hPc, va_K.moved hW.alike hKc, hDc.weaken (fun _ _ _ _ => trivial)⟩⟩ rfl rfl hl.1 rfl (lv_room (Nat.le_of_ble_eq_true rfl)) dL_law_291 ⟨Nat.le_of_ble_eq_true rfl, Nat.le_of_ble_eq_true rfl⟩) hS (fun q _ h => hFc q h) hFc (fun r1 u t H1 locs ht hvm hw hB hz1 hk1 hS => ?_)
  obtain ⟨hP1, hK1, hD1⟩ := hB
  rw [ht] at hP1
  have hK1 := va_K.moved hvm.symm hK1
  obtain ⟨hP, hD⟩ := va_join (wr := [(a13, .inr (0, [.ref ya8, .int 0])), (ya8, .inl (cA20, 1200, .inl f021)), (a24, .inr (3, [.ref b29, .ref t110, .ref t211, .ref t312, .int 0])), (b29, .inr (0, [.ref yb13, .int 0])), (a35, .inr (1, [.ref h114, .ref h215, .ref h316, .int 0, .int 0, .int 0])), (a57, .inr (5, [.ref h417, .ref b518, .int 0])), (b518, .inr (0, [.ref yc19, .int 0])), (q22, .inr (7, [.int 0, .ref m124, .int 0, .int (-1), .int 0, .int 0, .int 0, .ref m225, .int 0, .int 0, .ref m326, .ref m427, .ref m528, .ref m629, .ref m730, .ref m831, .ref m932, .int 0, .ref m1033, .ref m1134, .ref m1235, .int 0, .ref m1336, .ref m1437, .ref m1538, .int 0, .ref m1639, .int 0, .int 0])), (m124, .inl (cI40, 1200, .inl f041))]) (w1 := []) hP hD [0] [1, 2, 3, 4, 5, 6, 7, 8, 9] rfl rfl (by decide) (by decide) hk1 hFc hP1 hD1
  have hK := (hK.sub (tys' := [(cA20, .byte), (cI40, .int)]) [0, 1] rfl).app hK1
  generalize H1 = H at hP hS ⊢
  have hP : va_P (dC, dI) vwCl [(a13, .inr (0, [.ref ya8, .int 0])), (ya8, .inl (cA20, 1200, .inl f021)), (a24, .inr (3, [.ref b29, .ref t110, .ref t211, .ref t312, .int 0])), (b29, .inr (0, [.ref yb13, .int 0])), (a35, .inr (1, [.ref h114, .ref h215, .ref h316, .int 0, .int 0, .int 0])), (a57, .inr (5, [.ref h417, .ref b518, .int 0])), (b518, .inr (0, [.ref yc19, .int 0])), (q22, .inr (7, [.int 0, .ref m124, .int 0, .int (-1), .int 0, .int 0, .int 0, .ref m225, .int 0, .int 0, .ref m326, .ref m427, .ref m528, .ref m629, .ref m730, .ref m831, .ref m932, .int 0, .ref m1033, .ref m1134, .ref m1235, .int 0, .ref m1336, .ref m1437, .ref m1538, .int 0, .ref m1639, .int 0, .int 0])), (m124, .inl (cI40, 1200, .inl f041))] H := hP
  have hD : va_D (fun q : Nat => s.heap.size ≤ q) [(a13, .inr (0, [.ref ya8, .int 0])), (ya8, .inl (cA20, 1200, .inl f021)), (a24, .inr (3, [.ref b29, .ref t110, .ref t211, .ref t312, .int 0])), (b29, .inr (0, [.ref yb13, .int 0])), (a35, .inr (1, [.ref h114, .ref h215, .ref h316, .int 0, .int 0, .int 0])), (a57, .inr (5, [.ref h417, .ref b518, .int 0])), (b518, .inr (0, [.ref yc19, .int 0])), (q22, .inr (7, [.int 0, .ref m124, .int 0, .int (-1), .int 0, .int 0, .int 0, .ref m225, .int 0, .int 0, .ref m326, .ref m427, .ref m528, .ref m629, .ref m730, .ref m831, .ref m932, .int 0, .ref m1033, .ref m1134, .ref m1235, .int 0, .ref m1336, .ref m1437, .ref m1538, .int 0, .ref m1639, .int 0, .int 0])), (m124, .inl (cI40, 1200, .inl f041))] := hD
  have hK : va_K (dC, dI) vwCl [(cA20, .byte), (cI40, .int)] s := hK
  have hw : r1 = (-4) := hw
  subst hw
  refine lv_aload_n hx hb dL_law_294 rfl (lv_at hl 1 rfl) ?_
  refine lv_aload_n hx hb dL_law_295 rfl (lv_at hl 3 rfl) ?_
  refine lv_iload_n hx hb dL_law_296 rfl (lv_at hl 0 rfl) ?_
  refine lv_iconst (v := 1) hx hb dL_law_297 (by decide) ?_
  refine lv_iadd hx hb dL_law_298 ?_
  refine pf_top (y := 1) (by decide) ?_
  refine va_sld hx hb hX hbl hbA hS pf_i1 dL_law_299 ?_
  refine lv_aload_n hx hb dL_law_300 rfl (lv_at hl 3 rfl) ?_
  refine lv_iload_n hx hb dL_law_301 rfl (lv_at hl 0 rfl) ?_
  refine lv_iconst (v := 2) hx hb dL_law_302 (by decide) ?_
  refine lv_iadd hx hb dL_law_303 ?_
  refine pf_top (y := 2) (by decide) ?_
  refine va_sld hx hb hX hbl hbA hS pf_i2 dL_law_304 ?_
  have hPc := hP.sub (ws' := [(q22, .inr (7, [.int 0, .ref m124, .int 0, .int (-1), .int 0, .int 0, .int 0, .ref m225, .int 0, .int 0, .ref m326, .ref m427, .ref m528, .ref m629, .ref m730, .ref m831, .ref m932, .int 0, .ref m1033, .ref m1134, .ref m1235, .int 0, .ref m1336, .ref m1437, .ref m1538, .int 0, .ref m1639, .int 0, .int 0]))]) [7] rfl
  have hDc := hD.sub (ws' := [(q22, .inr (7, [.int 0, .ref m124, .int 0, .int (-1), .int 0, .int 0, .int 0, .ref m225, .int 0, .int 0, .ref m326, .ref m427, .ref m528, .ref m629, .ref m730, .ref m831, .ref m932, .int 0, .ref m1033, .ref m1134, .ref m1235, .int 0, .ref m1336, .ref m1437, .ref m1538, .int 0, .ref m1639, .int 0, .int 0]))]) [7] (by decide) rfl
  have hKc := hK.sub (tys' := []) [] rfl
  have hFc := va_free (wc := [(q22, .inr (7, [.int 0, .ref m124, .int 0, .int (-1), .int 0, .int 0, .int 0, .ref m225, .int 0, .int 0, .ref m326, .ref m427, .ref m528, .ref m629, .ref m730, .ref m831, .ref m932, .int 0, .ref m1033, .ref m1134, .ref m1235, .int 0, .ref m1336, .ref m1437, .ref m1538, .int 0, .ref m1639, .int 0, .int 0]))]) hD hS hA [7] rfl
  refine va_calli (va_runV (As := [.int (xs (1 : Int32).toNatClampNeg), .int (xs (2 : Int32).toNatClampNeg)]) (rest := [.int (-4)]) ⟨hx, hb, hml, hown, hts⟩ (c_X7_group l dC dI H.size q22 m124 m225 m326 m427 m528 m629 m730 m831 m932 m1033 m1134 m1235 m1336 m1437 m1538 m1639 (xs (1 : Int32).toNatClampNeg) (xs (2 : Int32).toNatClampNeg)) (cwV 2 hts gg_RL_46 rfl rfl rfl (by decide +kernel) ⟨Nat.le_of_ble_eq_true rfl, Nat.le_of_ble_eq_true rfl⟩) ⟨fun a U g mk q => by obtain ⟨q0, q1, qP, qK, qD⟩ := q; exact ⟨q0, q1, qP, va_K.moved (u := U) (U := U.calling g mk a) (Vm.Alike.refl U.vm) qK, qD⟩, va_recv hK hP (ci := 7) (q0 := 7) rfl rfl, fun U hU hW => ⟨rfl, by rw [hU], by rw [hU]; exact hPc, va_K.moved hW.alike hKc, hDc.weaken (fun _ _ _ _ => trivial)⟩⟩ rfl rfl hl.1 rfl (lv_room (Nat.le_of_ble_eq_true rfl)) dL_law_305 ⟨Nat.le_of_ble_eq_true rfl, Nat.le_of_ble_eq_true rfl⟩) hS (fun q _ h => hFc q h) hFc (fun r2 u t H1 locs ht hvm hw hB hz1 hk1 hS => ?_)
  obtain ⟨hP1, hK1, hD1⟩ := hB
  rw [ht] at hP1
  have hK1 := va_K.moved hvm.symm hK1
  obtain ⟨hP, hD⟩ := va_join (wr := [(a13, .inr (0, [.ref ya8, .int 0])), (ya8, .inl (cA20, 1200, .inl f021)), (a24, .inr (3, [.ref b29, .ref t110, .ref t211, .ref t312, .int 0])), (b29, .inr (0, [.ref yb13, .int 0])), (a35, .inr (1, [.ref h114, .ref h215, .ref h316, .int 0, .int 0, .int 0])), (a57, .inr (5, [.ref h417, .ref b518, .int 0])), (b518, .inr (0, [.ref yc19, .int 0])), (m124, .inl (cI40, 1200, .inl f041))]) (w1 := []) hP hD [7] [0, 1, 2, 3, 4, 5, 6, 8] rfl rfl (by decide) (by decide) hk1 hFc hP1 hD1
  have hK := (hK.sub (tys' := [(cA20, .byte), (cI40, .int)]) [0, 1] rfl).app hK1
  generalize H1 = H at hP hS ⊢
  have hP : va_P (dC, dI) vwCl [(a13, .inr (0, [.ref ya8, .int 0])), (ya8, .inl (cA20, 1200, .inl f021)), (a24, .inr (3, [.ref b29, .ref t110, .ref t211, .ref t312, .int 0])), (b29, .inr (0, [.ref yb13, .int 0])), (a35, .inr (1, [.ref h114, .ref h215, .ref h316, .int 0, .int 0, .int 0])), (a57, .inr (5, [.ref h417, .ref b518, .int 0])), (b518, .inr (0, [.ref yc19, .int 0])), (m124, .inl (cI40, 1200, .inl f041))] H := hP
  have hD : va_D (fun q : Nat => s.heap.size ≤ q) [(a13, .inr (0, [.ref ya8, .int 0])), (ya8, .inl (cA20, 1200, .inl f021)), (a24, .inr (3, [.ref b29, .ref t110, .ref t211, .ref t312, .int 0])), (b29, .inr (0, [.ref yb13, .int 0])), (a35, .inr (1, [.ref h114, .ref h215, .ref h316, .int 0, .int 0, .int 0])), (a57, .inr (5, [.ref h417, .ref b518, .int 0])), (b518, .inr (0, [.ref yc19, .int 0])), (m124, .inl (cI40, 1200, .inl f041))] := hD
  have hK : va_K (dC, dI) vwCl [(cA20, .byte), (cI40, .int)] s := hK
  have hw : r2 = (-4) := hw
  subst hw
  refine lv_icmp_eq (tgt := 600) hx hb dL_law_308 (by decide) (fun c_308 => ?_) (fun c_308 => absurd (rfl) c_308)
  exact law_end C0 hS (lv_sub hl [3, 0] rfl)

set_option maxHeartbeats 4000000 in
set_option maxRecDepth 100000 in
theorem law_setOf {p : Program} {l : Launch} {e : Env} {s : State} {m : MethodId} {below : List Frame} {meth : Method} {c : Code} {b : Nat} {xs : Nat → Int32} (C0 : lw_At p s m meth c b 4 xs) {dC : Nat → ClassId} {dI : Nat → Nat → Nat} {q1 a13 a24 a35 a46 a57 ya8 b29 t110 t211 t312 yb13 h114 h215 h316 h417 b518 yc19 q22 m124 m225 m326 m427 m528 m629 m730 m831 m932 m1033 m1134 m1235 m1336 m1437 m1538 m1639 : Nat} {cA20 cI40 : ClassId} {f021 f041 : Nat → Int32} {H : Heap} {locs : List Loc} (hK : va_K (dC, dI) vwCl [(cA20, .byte), (cI40, .int)] s) (hP : va_P (dC, dI) vwCl [(q1, .inr (6, [.ref a13, .ref a24, .ref a35, .ref a46, .ref a57, .int (-1), .int 0])), (a13, .inr (0, [.ref ya8, .int 0])), (ya8, .inl (cA20, 1200, .inl f021)), (a24, .inr (3, [.ref b29, .ref t110, .ref t211, .ref t312, .int 0])), (b29, .inr (0, [.ref yb13, .int 0])), (a35, .inr (1, [.ref h114, .ref h215, .ref h316, .int 0, .int 0, .int 0])), (a57, .inr (5, [.ref h417, .ref b518, .int 0])), (b518, .inr (0, [.ref yc19, .int 0])), (q22, .inr (7, [.int 0, .ref m124, .int 0, .int (-1), .int 0, .int 0, .int 0, .ref m225, .int 0, .int 0, .ref m326, .ref m427, .ref m528, .ref m629, .ref m730, .ref m831, .ref m932, .int 0, .ref m1033, .ref m1134, .ref m1235, .int 0, .ref m1336, .ref m1437, .ref m1538, .int 0, .ref m1639, .int 0, .int 0])), (m124, .inl (cI40, 1200, .inl f041))] H) (hD : va_D (fun q : Nat => s.heap.size ≤ q) [(q1, .inr (6, [.ref a13, .ref a24, .ref a35, .ref a46, .ref a57, .int (-1), .int 0])), (a13, .inr (0, [.ref ya8, .int 0])), (ya8, .inl (cA20, 1200, .inl f021)), (a24, .inr (3, [.ref b29, .ref t110, .ref t211, .ref t312, .int 0])), (b29, .inr (0, [.ref yb13, .int 0])), (a35, .inr (1, [.ref h114, .ref h215, .ref h316, .int 0, .int 0, .int 0])), (a57, .inr (5, [.ref h417, .ref b518, .int 0])), (b518, .inr (0, [.ref yc19, .int 0])), (q22, .inr (7, [.int 0, .ref m124, .int 0, .int (-1), .int 0, .int 0, .int 0, .ref m225, .int 0, .int 0, .ref m326, .ref m427, .ref m528, .ref m629, .ref m730, .ref m831, .ref m932, .int 0, .ref m1033, .ref m1134, .ref m1235, .int 0, .ref m1336, .ref m1437, .ref m1538, .int 0, .ref m1639, .int 0, .int 0])), (m124, .inl (cI40, 1200, .inl f041))]) (hS : va_S (fun q : Nat => s.heap.size ≤ q) s.heap H locs) {ls : Array Slot} (hl : lv_has ls 4 [(3, .int 0), (2, .ref q22), (1, .ref q1), (0, .ref b)]) : W p l e room_1 s m #[Value.ref b] below meth c H locs 40 14459 (lw_Z below #[Value.ref b] s) (F0 m 313 ls []) := by
  obtain ⟨hx, hb, hr, hml, hown0, hts0, hX, hbl, hlocks, hgv⟩ := id C0
  have hown : s.vm.findClass RL = some m.cls := hown0
  have hts : ∀ w ∈ pwAll, w.before #[Value.ref b] s = true := fun w h => hts0 w (pwAll_in w h)
  have hA : ∀ q : Nat, s.heap.size ≤ q → (fun q : Nat => s.heap.size ≤ q) q := fun _ h => h
  have hbA : ¬ (fun q : Nat => s.heap.size ≤ q) b := Nat.not_le.mpr hbl
  refine lv_aload_n hx hb dL_law_313 rfl (lv_at hl 2 rfl) ?_
  refine lv_aload_n hx hb dL_law_314 rfl (lv_at hl 3 rfl) ?_
  refine lv_iload_n hx hb dL_law_315 rfl (lv_at hl 0 rfl) ?_
  refine lv_iconst (v := 1) hx hb dL_law_316 (by decide) ?_
  refine lv_iadd hx hb dL_law_317 ?_
  refine pf_top (y := 1) (by decide) ?_
  refine va_sld hx hb hX hbl hbA hS pf_i1 dL_law_318 ?_
  refine lv_aload_n hx hb dL_law_319 rfl (lv_at hl 3 rfl) ?_
  refine lv_iload_n hx hb dL_law_320 rfl (lv_at hl 0 rfl) ?_
  refine lv_iconst (v := 2) hx hb dL_law_321 (by decide) ?_
  refine lv_iadd hx hb dL_law_322 ?_
  refine pf_top (y := 2) (by decide) ?_
  refine va_sld hx hb hX hbl hbA hS pf_i2 dL_law_323 ?_
  have hPc := hP.sub (ws' := [(q1, .inr (6, [.ref a13, .ref a24, .ref a35, .ref a46, .ref a57, .int (-1), .int 0]))]) [0] rfl
  have hDc := hD.sub (ws' := [(q1, .inr (6, [.ref a13, .ref a24, .ref a35, .ref a46, .ref a57, .int (-1), .int 0]))]) [0] (by decide) rfl
  have hKc := hK.sub (tys' := []) [] rfl
  have hFc := va_free (wc := [(q1, .inr (6, [.ref a13, .ref a24, .ref a35, .ref a46, .ref a57, .int (-1), .int 0]))]) hD hS hA [0] rfl
  refine va_calli (va_runV (As := [.int (xs (1 : Int32).toNatClampNeg), .int (xs (2 : Int32).toNatClampNeg)]) (rest := []) ⟨hx, hb, hml, hown, hts⟩ (c_X6_setOf l dC dI H.size q1 a13 a24 a35 a46 a57 (xs (1 : Int32).toNatClampNeg) (xs (2 : Int32).toNatClampNeg)) (cwV 2 hts gg_RL_47 rfl rfl rfl (by decide +kernel) ⟨Nat.le_of_ble_eq_true rfl, Nat.le_of_ble_eq_true rfl⟩) ⟨fun a U g mk q => by obtain ⟨q0, q1, qP, qK, qD⟩ := q; exact ⟨q0, q1, qP, va_K.moved (u := U) (U := U.calling g mk a) (Vm.Alike.refl U.vm) qK, qD⟩, va_recv hK hP (ci := 6) (q0 := 0) rfl rfl, fun U hU hW => ⟨rfl, by rw [hU], by rw [hU]; exact hPc, va_K.moved hW.alike hKc, hDc.weaken (fun _ _ _ _ => trivial)⟩⟩ rfl rfl hl.1 rfl (lv_room (Nat.le_of_ble_eq_true rfl)) dL_law_324 ⟨Nat.le_of_ble_eq_true rfl, Nat.le_of_ble_eq_true rfl⟩) hS (fun q _ h => hFc q h) hFc (fun r1 u t H1 locs ht hvm hw hB hz1 hk1 hS => ?_)
  obtain ⟨hP1, hK1, hD1⟩ := hB
  rw [ht] at hP1
  have hK1 := va_K.moved hvm.symm hK1
  obtain ⟨hP, hD⟩ := va_join (wr := [(a13, .inr (0, [.ref ya8, .int 0])), (ya8, .inl (cA20, 1200, .inl f021)), (a24, .inr (3, [.ref b29, .ref t110, .ref t211, .ref t312, .int 0])), (b29, .inr (0, [.ref yb13, .int 0])), (a35, .inr (1, [.ref h114, .ref h215, .ref h316, .int 0, .int 0, .int 0])), (a57, .inr (5, [.ref h417, .ref b518, .int 0])), (b518, .inr (0, [.ref yc19, .int 0])), (q22, .inr (7, [.int 0, .ref m124, .int 0, .int (-1), .int 0, .int 0, .int 0, .ref m225, .int 0, .int 0, .ref m326, .ref m427, .ref m528, .ref m629, .ref m730, .ref m831, .ref m932, .int 0, .ref m1033, .ref m1134, .ref m1235, .int 0, .ref m1336, .ref m1437, .ref m1538, .int 0, .ref m1639, .int 0, .int 0])), (m124, .inl (cI40, 1200, .inl f041))]) (w1 := []) hP hD [0] [1, 2, 3, 4, 5, 6, 7, 8, 9] rfl rfl (by decide) (by decide) hk1 hFc hP1 hD1
  have hK := (hK.sub (tys' := [(cA20, .byte), (cI40, .int)]) [0, 1] rfl).app hK1
  generalize H1 = H at hP hS ⊢
  have hP : va_P (dC, dI) vwCl [(a13, .inr (0, [.ref ya8, .int 0])), (ya8, .inl (cA20, 1200, .inl f021)), (a24, .inr (3, [.ref b29, .ref t110, .ref t211, .ref t312, .int 0])), (b29, .inr (0, [.ref yb13, .int 0])), (a35, .inr (1, [.ref h114, .ref h215, .ref h316, .int 0, .int 0, .int 0])), (a57, .inr (5, [.ref h417, .ref b518, .int 0])), (b518, .inr (0, [.ref yc19, .int 0])), (q22, .inr (7, [.int 0, .ref m124, .int 0, .int (-1), .int 0, .int 0, .int 0, .ref m225, .int 0, .int 0, .ref m326, .ref m427, .ref m528, .ref m629, .ref m730, .ref m831, .ref m932, .int 0, .ref m1033, .ref m1134, .ref m1235, .int 0, .ref m1336, .ref m1437, .ref m1538, .int 0, .ref m1639, .int 0, .int 0])), (m124, .inl (cI40, 1200, .inl f041))] H := hP
  have hD : va_D (fun q : Nat => s.heap.size ≤ q) [(a13, .inr (0, [.ref ya8, .int 0])), (ya8, .inl (cA20, 1200, .inl f021)), (a24, .inr (3, [.ref b29, .ref t110, .ref t211, .ref t312, .int 0])), (b29, .inr (0, [.ref yb13, .int 0])), (a35, .inr (1, [.ref h114, .ref h215, .ref h316, .int 0, .int 0, .int 0])), (a57, .inr (5, [.ref h417, .ref b518, .int 0])), (b518, .inr (0, [.ref yc19, .int 0])), (q22, .inr (7, [.int 0, .ref m124, .int 0, .int (-1), .int 0, .int 0, .int 0, .ref m225, .int 0, .int 0, .ref m326, .ref m427, .ref m528, .ref m629, .ref m730, .ref m831, .ref m932, .int 0, .ref m1033, .ref m1134, .ref m1235, .int 0, .ref m1336, .ref m1437, .ref m1538, .int 0, .ref m1639, .int 0, .int 0])), (m124, .inl (cI40, 1200, .inl f041))] := hD
  have hK : va_K (dC, dI) vwCl [(cA20, .byte), (cI40, .int)] s := hK
  have hw : r1 = (-4) := hw
  subst hw
  refine lv_aload_n hx hb dL_law_327 rfl (lv_at hl 1 rfl) ?_
  refine lv_aload_n hx hb dL_law_328 rfl (lv_at hl 3 rfl) ?_
  refine lv_iload_n hx hb dL_law_329 rfl (lv_at hl 0 rfl) ?_
  refine lv_iconst (v := 1) hx hb dL_law_330 (by decide) ?_
  refine lv_iadd hx hb dL_law_331 ?_
  refine pf_top (y := 1) (by decide) ?_
  refine va_sld hx hb hX hbl hbA hS pf_i1 dL_law_332 ?_
  refine lv_aload_n hx hb dL_law_333 rfl (lv_at hl 3 rfl) ?_
  refine lv_iload_n hx hb dL_law_334 rfl (lv_at hl 0 rfl) ?_
  refine lv_iconst (v := 2) hx hb dL_law_335 (by decide) ?_
  refine lv_iadd hx hb dL_law_336 ?_
  refine pf_top (y := 2) (by decide) ?_
  refine va_sld hx hb hX hbl hbA hS pf_i2 dL_law_337 ?_
  have hPc := hP.sub (ws' := [(q22, .inr (7, [.int 0, .ref m124, .int 0, .int (-1), .int 0, .int 0, .int 0, .ref m225, .int 0, .int 0, .ref m326, .ref m427, .ref m528, .ref m629, .ref m730, .ref m831, .ref m932, .int 0, .ref m1033, .ref m1134, .ref m1235, .int 0, .ref m1336, .ref m1437, .ref m1538, .int 0, .ref m1639, .int 0, .int 0]))]) [7] rfl
  have hDc := hD.sub (ws' := [(q22, .inr (7, [.int 0, .ref m124, .int 0, .int (-1), .int 0, .int 0, .int 0, .ref m225, .int 0, .int 0, .ref m326, .ref m427, .ref m528, .ref m629, .ref m730, .ref m831, .ref m932, .int 0, .ref m1033, .ref m1134, .ref m1235, .int 0, .ref m1336, .ref m1437, .ref m1538, .int 0, .ref m1639, .int 0, .int 0]))]) [7] (by decide) rfl
  have hKc := hK.sub (tys' := []) [] rfl
  have hFc := va_free (wc := [(q22, .inr (7, [.int 0, .ref m124, .int 0, .int (-1), .int 0, .int 0, .int 0, .ref m225, .int 0, .int 0, .ref m326, .ref m427, .ref m528, .ref m629, .ref m730, .ref m831, .ref m932, .int 0, .ref m1033, .ref m1134, .ref m1235, .int 0, .ref m1336, .ref m1437, .ref m1538, .int 0, .ref m1639, .int 0, .int 0]))]) hD hS hA [7] rfl
  refine va_calli (va_runV (As := [.int (xs (1 : Int32).toNatClampNeg), .int (xs (2 : Int32).toNatClampNeg)]) (rest := [.int (-4)]) ⟨hx, hb, hml, hown, hts⟩ (c_X7_setOf l dC dI H.size q22 m124 m225 m326 m427 m528 m629 m730 m831 m932 m1033 m1134 m1235 m1336 m1437 m1538 m1639 (xs (1 : Int32).toNatClampNeg) (xs (2 : Int32).toNatClampNeg)) (cwV 2 hts gg_RL_50 rfl rfl rfl (by decide +kernel) ⟨Nat.le_of_ble_eq_true rfl, Nat.le_of_ble_eq_true rfl⟩) ⟨fun a U g mk q => by obtain ⟨q0, q1, qP, qK, qD⟩ := q; exact ⟨q0, q1, qP, va_K.moved (u := U) (U := U.calling g mk a) (Vm.Alike.refl U.vm) qK, qD⟩, va_recv hK hP (ci := 7) (q0 := 7) rfl rfl, fun U hU hW => ⟨rfl, by rw [hU], by rw [hU]; exact hPc, va_K.moved hW.alike hKc, hDc.weaken (fun _ _ _ _ => trivial)⟩⟩ rfl rfl hl.1 rfl (lv_room (Nat.le_of_ble_eq_true rfl)) dL_law_338 ⟨Nat.le_of_ble_eq_true rfl, Nat.le_of_ble_eq_true rfl⟩) hS (fun q _ h => hFc q h) hFc (fun r2 u t H1 locs ht hvm hw hB hz1 hk1 hS => ?_)
  obtain ⟨hP1, hK1, hD1⟩ := hB
  rw [ht] at hP1
  have hK1 := va_K.moved hvm.symm hK1
  obtain ⟨hP, hD⟩ := va_join (wr := [(a13, .inr (0, [.ref ya8, .int 0])), (ya8, .inl (cA20, 1200, .inl f021)), (a24, .inr (3, [.ref b29, .ref t110, .ref t211, .ref t312, .int 0])), (b29, .inr (0, [.ref yb13, .int 0])), (a35, .inr (1, [.ref h114, .ref h215, .ref h316, .int 0, .int 0, .int 0])), (a57, .inr (5, [.ref h417, .ref b518, .int 0])), (b518, .inr (0, [.ref yc19, .int 0])), (m124, .inl (cI40, 1200, .inl f041))]) (w1 := []) hP hD [7] [0, 1, 2, 3, 4, 5, 6, 8] rfl rfl (by decide) (by decide) hk1 hFc hP1 hD1
  have hK := (hK.sub (tys' := [(cA20, .byte), (cI40, .int)]) [0, 1] rfl).app hK1
  generalize H1 = H at hP hS ⊢
  have hP : va_P (dC, dI) vwCl [(a13, .inr (0, [.ref ya8, .int 0])), (ya8, .inl (cA20, 1200, .inl f021)), (a24, .inr (3, [.ref b29, .ref t110, .ref t211, .ref t312, .int 0])), (b29, .inr (0, [.ref yb13, .int 0])), (a35, .inr (1, [.ref h114, .ref h215, .ref h316, .int 0, .int 0, .int 0])), (a57, .inr (5, [.ref h417, .ref b518, .int 0])), (b518, .inr (0, [.ref yc19, .int 0])), (m124, .inl (cI40, 1200, .inl f041))] H := hP
  have hD : va_D (fun q : Nat => s.heap.size ≤ q) [(a13, .inr (0, [.ref ya8, .int 0])), (ya8, .inl (cA20, 1200, .inl f021)), (a24, .inr (3, [.ref b29, .ref t110, .ref t211, .ref t312, .int 0])), (b29, .inr (0, [.ref yb13, .int 0])), (a35, .inr (1, [.ref h114, .ref h215, .ref h316, .int 0, .int 0, .int 0])), (a57, .inr (5, [.ref h417, .ref b518, .int 0])), (b518, .inr (0, [.ref yc19, .int 0])), (m124, .inl (cI40, 1200, .inl f041))] := hD
  have hK : va_K (dC, dI) vwCl [(cA20, .byte), (cI40, .int)] s := hK
  have hw : r2 = (-4) := hw
  subst hw
  refine lv_icmp_eq (tgt := 600) hx hb dL_law_341 (by decide) (fun c_341 => ?_) (fun c_341 => absurd (rfl) c_341)
  exact law_end C0 hS (lv_sub hl [3, 0] rfl)

set_option maxHeartbeats 4000000 in
set_option maxRecDepth 100000 in
theorem law_fault {p : Program} {l : Launch} {e : Env} {s : State} {m : MethodId} {below : List Frame} {meth : Method} {c : Code} {b : Nat} {xs : Nat → Int32} (C0 : lw_At p s m meth c b 4 xs) {dC : Nat → ClassId} {dI : Nat → Nat → Nat} {q1 a13 a24 a35 a46 a57 ya8 b29 t110 t211 t312 yb13 h114 h215 h316 h417 b518 yc19 q22 m124 m225 m326 m427 m528 m629 m730 m831 m932 m1033 m1134 m1235 m1336 m1437 m1538 m1639 : Nat} {cA20 cI40 : ClassId} {f021 f041 : Nat → Int32} {H : Heap} {locs : List Loc} (hK : va_K (dC, dI) vwCl [(cA20, .byte), (cI40, .int)] s) (hP : va_P (dC, dI) vwCl [(q1, .inr (6, [.ref a13, .ref a24, .ref a35, .ref a46, .ref a57, .int (-1), .int 0])), (a13, .inr (0, [.ref ya8, .int 0])), (ya8, .inl (cA20, 1200, .inl f021)), (a24, .inr (3, [.ref b29, .ref t110, .ref t211, .ref t312, .int 0])), (b29, .inr (0, [.ref yb13, .int 0])), (a35, .inr (1, [.ref h114, .ref h215, .ref h316, .int 0, .int 0, .int 0])), (a57, .inr (5, [.ref h417, .ref b518, .int 0])), (b518, .inr (0, [.ref yc19, .int 0])), (q22, .inr (7, [.int 0, .ref m124, .int 0, .int (-1), .int 0, .int 0, .int 0, .ref m225, .int 0, .int 0, .ref m326, .ref m427, .ref m528, .ref m629, .ref m730, .ref m831, .ref m932, .int 0, .ref m1033, .ref m1134, .ref m1235, .int 0, .ref m1336, .ref m1437, .ref m1538, .int 0, .ref m1639, .int 0, .int 0])), (m124, .inl (cI40, 1200, .inl f041))] H) (hD : va_D (fun q : Nat => s.heap.size ≤ q) [(q1, .inr (6, [.ref a13, .ref a24, .ref a35, .ref a46, .ref a57, .int (-1), .int 0])), (a13, .inr (0, [.ref ya8, .int 0])), (ya8, .inl (cA20, 1200, .inl f021)), (a24, .inr (3, [.ref b29, .ref t110, .ref t211, .ref t312, .int 0])), (b29, .inr (0, [.ref yb13, .int 0])), (a35, .inr (1, [.ref h114, .ref h215, .ref h316, .int 0, .int 0, .int 0])), (a57, .inr (5, [.ref h417, .ref b518, .int 0])), (b518, .inr (0, [.ref yc19, .int 0])), (q22, .inr (7, [.int 0, .ref m124, .int 0, .int (-1), .int 0, .int 0, .int 0, .ref m225, .int 0, .int 0, .ref m326, .ref m427, .ref m528, .ref m629, .ref m730, .ref m831, .ref m932, .int 0, .ref m1033, .ref m1134, .ref m1235, .int 0, .ref m1336, .ref m1437, .ref m1538, .int 0, .ref m1639, .int 0, .int 0])), (m124, .inl (cI40, 1200, .inl f041))]) (hS : va_S (fun q : Nat => s.heap.size ≤ q) s.heap H locs) {ls : Array Slot} (hl : lv_has ls 4 [(3, .int 0), (2, .ref q22), (1, .ref q1), (0, .ref b)]) : W p l e room_1 s m #[Value.ref b] below meth c H locs 40 14459 (lw_Z below #[Value.ref b] s) (F0 m 346 ls []) := by
  obtain ⟨hx, hb, hr, hml, hown0, hts0, hX, hbl, hlocks, hgv⟩ := id C0
  have hown : s.vm.findClass RL = some m.cls := hown0
  have hts : ∀ w ∈ pwAll, w.before #[Value.ref b] s = true := fun w h => hts0 w (pwAll_in w h)
  have hA : ∀ q : Nat, s.heap.size ≤ q → (fun q : Nat => s.heap.size ≤ q) q := fun _ h => h
  have hbA : ¬ (fun q : Nat => s.heap.size ≤ q) b := Nat.not_le.mpr hbl
  refine lv_aload_n hx hb dL_law_346 rfl (lv_at hl 2 rfl) ?_
  refine lv_aload_n hx hb dL_law_347 rfl (lv_at hl 3 rfl) ?_
  refine lv_iload_n hx hb dL_law_348 rfl (lv_at hl 0 rfl) ?_
  refine lv_iconst (v := 1) hx hb dL_law_349 (by decide) ?_
  refine lv_iadd hx hb dL_law_350 ?_
  refine pf_top (y := 1) (by decide) ?_
  refine va_sld hx hb hX hbl hbA hS pf_i1 dL_law_351 ?_
  refine lv_aload_n hx hb dL_law_352 rfl (lv_at hl 3 rfl) ?_
  refine lv_iload_n hx hb dL_law_353 rfl (lv_at hl 0 rfl) ?_
  refine lv_iconst (v := 2) hx hb dL_law_354 (by decide) ?_
  refine lv_iadd hx hb dL_law_355 ?_
  refine pf_top (y := 2) (by decide) ?_
  refine va_sld hx hb hX hbl hbA hS pf_i2 dL_law_356 ?_
  refine lv_aload_n hx hb dL_law_357 rfl (lv_at hl 3 rfl) ?_
  refine lv_iload_n hx hb dL_law_358 rfl (lv_at hl 0 rfl) ?_
  refine lv_iconst (v := 3) hx hb dL_law_359 (by decide) ?_
  refine lv_iadd hx hb dL_law_360 ?_
  refine pf_top (y := 3) (by decide) ?_
  refine va_sld hx hb hX hbl hbA hS pf_i3 dL_law_361 ?_
  have hPc := hP.sub (ws' := [(q1, .inr (6, [.ref a13, .ref a24, .ref a35, .ref a46, .ref a57, .int (-1), .int 0]))]) [0] rfl
  have hDc := hD.sub (ws' := [(q1, .inr (6, [.ref a13, .ref a24, .ref a35, .ref a46, .ref a57, .int (-1), .int 0]))]) [0] (by decide) rfl
  have hKc := hK.sub (tys' := []) [] rfl
  have hFc := va_free (wc := [(q1, .inr (6, [.ref a13, .ref a24, .ref a35, .ref a46, .ref a57, .int (-1), .int 0]))]) hD hS hA [0] rfl
  refine va_calli (va_runV (As := [.int (xs (1 : Int32).toNatClampNeg), .int (xs (2 : Int32).toNatClampNeg), .int (xs (3 : Int32).toNatClampNeg)]) (rest := []) ⟨hx, hb, hml, hown, hts⟩ (c_X6_fault l dC dI H.size q1 a13 a24 a35 a46 a57 (xs (1 : Int32).toNatClampNeg) (xs (2 : Int32).toNatClampNeg) (xs (3 : Int32).toNatClampNeg)) (cwV 3 hts gg_RL_51 rfl rfl rfl (by decide +kernel) ⟨Nat.le_of_ble_eq_true rfl, Nat.le_of_ble_eq_true rfl⟩) ⟨fun a U g mk q => by obtain ⟨q0, q1, qP, qK, qD⟩ := q; exact ⟨q0, q1, qP, va_K.moved (u := U) (U := U.calling g mk a) (Vm.Alike.refl U.vm) qK, qD⟩, va_recv hK hP (ci := 6) (q0 := 0) rfl rfl, fun U hU hW => ⟨rfl, by rw [hU], by rw [hU]; exact hPc, va_K.moved hW.alike hKc, hDc.weaken (fun _ _ _ _ => trivial)⟩⟩ rfl rfl hl.1 rfl (lv_room (Nat.le_of_ble_eq_true rfl)) dL_law_362 ⟨Nat.le_of_ble_eq_true rfl, Nat.le_of_ble_eq_true rfl⟩) hS (fun q _ h => hFc q h) hFc (fun r1 u t H1 locs ht hvm hw hB hz1 hk1 hS => ?_)
  obtain ⟨hP1, hK1, hD1⟩ := hB
  rw [ht] at hP1
  have hK1 := va_K.moved hvm.symm hK1
  obtain ⟨hP, hD⟩ := va_join (wr := [(a13, .inr (0, [.ref ya8, .int 0])), (ya8, .inl (cA20, 1200, .inl f021)), (a24, .inr (3, [.ref b29, .ref t110, .ref t211, .ref t312, .int 0])), (b29, .inr (0, [.ref yb13, .int 0])), (a35, .inr (1, [.ref h114, .ref h215, .ref h316, .int 0, .int 0, .int 0])), (a57, .inr (5, [.ref h417, .ref b518, .int 0])), (b518, .inr (0, [.ref yc19, .int 0])), (q22, .inr (7, [.int 0, .ref m124, .int 0, .int (-1), .int 0, .int 0, .int 0, .ref m225, .int 0, .int 0, .ref m326, .ref m427, .ref m528, .ref m629, .ref m730, .ref m831, .ref m932, .int 0, .ref m1033, .ref m1134, .ref m1235, .int 0, .ref m1336, .ref m1437, .ref m1538, .int 0, .ref m1639, .int 0, .int 0])), (m124, .inl (cI40, 1200, .inl f041))]) (w1 := []) hP hD [0] [1, 2, 3, 4, 5, 6, 7, 8, 9] rfl rfl (by decide) (by decide) hk1 hFc hP1 hD1
  have hK := (hK.sub (tys' := [(cA20, .byte), (cI40, .int)]) [0, 1] rfl).app hK1
  generalize H1 = H at hP hS ⊢
  have hP : va_P (dC, dI) vwCl [(a13, .inr (0, [.ref ya8, .int 0])), (ya8, .inl (cA20, 1200, .inl f021)), (a24, .inr (3, [.ref b29, .ref t110, .ref t211, .ref t312, .int 0])), (b29, .inr (0, [.ref yb13, .int 0])), (a35, .inr (1, [.ref h114, .ref h215, .ref h316, .int 0, .int 0, .int 0])), (a57, .inr (5, [.ref h417, .ref b518, .int 0])), (b518, .inr (0, [.ref yc19, .int 0])), (q22, .inr (7, [.int 0, .ref m124, .int 0, .int (-1), .int 0, .int 0, .int 0, .ref m225, .int 0, .int 0, .ref m326, .ref m427, .ref m528, .ref m629, .ref m730, .ref m831, .ref m932, .int 0, .ref m1033, .ref m1134, .ref m1235, .int 0, .ref m1336, .ref m1437, .ref m1538, .int 0, .ref m1639, .int 0, .int 0])), (m124, .inl (cI40, 1200, .inl f041))] H := hP
  have hD : va_D (fun q : Nat => s.heap.size ≤ q) [(a13, .inr (0, [.ref ya8, .int 0])), (ya8, .inl (cA20, 1200, .inl f021)), (a24, .inr (3, [.ref b29, .ref t110, .ref t211, .ref t312, .int 0])), (b29, .inr (0, [.ref yb13, .int 0])), (a35, .inr (1, [.ref h114, .ref h215, .ref h316, .int 0, .int 0, .int 0])), (a57, .inr (5, [.ref h417, .ref b518, .int 0])), (b518, .inr (0, [.ref yc19, .int 0])), (q22, .inr (7, [.int 0, .ref m124, .int 0, .int (-1), .int 0, .int 0, .int 0, .ref m225, .int 0, .int 0, .ref m326, .ref m427, .ref m528, .ref m629, .ref m730, .ref m831, .ref m932, .int 0, .ref m1033, .ref m1134, .ref m1235, .int 0, .ref m1336, .ref m1437, .ref m1538, .int 0, .ref m1639, .int 0, .int 0])), (m124, .inl (cI40, 1200, .inl f041))] := hD
  have hK : va_K (dC, dI) vwCl [(cA20, .byte), (cI40, .int)] s := hK
  have hw : r1 = (-4) := hw
  subst hw
  refine lv_aload_n hx hb dL_law_365 rfl (lv_at hl 1 rfl) ?_
  refine lv_aload_n hx hb dL_law_366 rfl (lv_at hl 3 rfl) ?_
  refine lv_iload_n hx hb dL_law_367 rfl (lv_at hl 0 rfl) ?_
  refine lv_iconst (v := 1) hx hb dL_law_368 (by decide) ?_
  refine lv_iadd hx hb dL_law_369 ?_
  refine pf_top (y := 1) (by decide) ?_
  refine va_sld hx hb hX hbl hbA hS pf_i1 dL_law_370 ?_
  refine lv_aload_n hx hb dL_law_371 rfl (lv_at hl 3 rfl) ?_
  refine lv_iload_n hx hb dL_law_372 rfl (lv_at hl 0 rfl) ?_
  refine lv_iconst (v := 2) hx hb dL_law_373 (by decide) ?_
  refine lv_iadd hx hb dL_law_374 ?_
  refine pf_top (y := 2) (by decide) ?_
  refine va_sld hx hb hX hbl hbA hS pf_i2 dL_law_375 ?_
  refine lv_aload_n hx hb dL_law_376 rfl (lv_at hl 3 rfl) ?_
  refine lv_iload_n hx hb dL_law_377 rfl (lv_at hl 0 rfl) ?_
  refine lv_iconst (v := 3) hx hb dL_law_378 (by decide) ?_
  refine lv_iadd hx hb dL_law_379 ?_
  refine pf_top (y := 3) (by decide) ?_
  refine va_sld hx hb hX hbl hbA hS pf_i3 dL_law_380 ?_
  have hPc := hP.sub (ws' := [(q22, .inr (7, [.int 0, .ref m124, .int 0, .int (-1), .int 0, .int 0, .int 0, .ref m225, .int 0, .int 0, .ref m326, .ref m427, .ref m528, .ref m629, .ref m730, .ref m831, .ref m932, .int 0, .ref m1033, .ref m1134, .ref m1235, .int 0, .ref m1336, .ref m1437, .ref m1538, .int 0, .ref m1639, .int 0, .int 0]))]) [7] rfl
  have hDc := hD.sub (ws' := [(q22, .inr (7, [.int 0, .ref m124, .int 0, .int (-1), .int 0, .int 0, .int 0, .ref m225, .int 0, .int 0, .ref m326, .ref m427, .ref m528, .ref m629, .ref m730, .ref m831, .ref m932, .int 0, .ref m1033, .ref m1134, .ref m1235, .int 0, .ref m1336, .ref m1437, .ref m1538, .int 0, .ref m1639, .int 0, .int 0]))]) [7] (by decide) rfl
  have hKc := hK.sub (tys' := []) [] rfl
  have hFc := va_free (wc := [(q22, .inr (7, [.int 0, .ref m124, .int 0, .int (-1), .int 0, .int 0, .int 0, .ref m225, .int 0, .int 0, .ref m326, .ref m427, .ref m528, .ref m629, .ref m730, .ref m831, .ref m932, .int 0, .ref m1033, .ref m1134, .ref m1235, .int 0, .ref m1336, .ref m1437, .ref m1538, .int 0, .ref m1639, .int 0, .int 0]))]) hD hS hA [7] rfl
  refine va_calli (va_runV (As := [.int (xs (1 : Int32).toNatClampNeg), .int (xs (2 : Int32).toNatClampNeg), .int (xs (3 : Int32).toNatClampNeg)]) (rest := [.int (-4)]) ⟨hx, hb, hml, hown, hts⟩ (c_X7_fault l dC dI H.size q22 m124 m225 m326 m427 m528 m629 m730 m831 m932 m1033 m1134 m1235 m1336 m1437 m1538 m1639 (xs (1 : Int32).toNatClampNeg) (xs (2 : Int32).toNatClampNeg) (xs (3 : Int32).toNatClampNeg)) (cwV 3 hts gg_RL_55 rfl rfl rfl (by decide +kernel) ⟨Nat.le_of_ble_eq_true rfl, Nat.le_of_ble_eq_true rfl⟩) ⟨fun a U g mk q => by obtain ⟨q0, q1, qP, qK, qD⟩ := q; exact ⟨q0, q1, qP, va_K.moved (u := U) (U := U.calling g mk a) (Vm.Alike.refl U.vm) qK, qD⟩, va_recv hK hP (ci := 7) (q0 := 7) rfl rfl, fun U hU hW => ⟨rfl, by rw [hU], by rw [hU]; exact hPc, va_K.moved hW.alike hKc, hDc.weaken (fun _ _ _ _ => trivial)⟩⟩ rfl rfl hl.1 rfl (lv_room (Nat.le_of_ble_eq_true rfl)) dL_law_381 ⟨Nat.le_of_ble_eq_true rfl, Nat.le_of_ble_eq_true rfl⟩) hS (fun q _ h => hFc q h) hFc (fun r2 u t H1 locs ht hvm hw hB hz1 hk1 hS => ?_)
  obtain ⟨hP1, hK1, hD1⟩ := hB
  rw [ht] at hP1
  have hK1 := va_K.moved hvm.symm hK1
  obtain ⟨hP, hD⟩ := va_join (wr := [(a13, .inr (0, [.ref ya8, .int 0])), (ya8, .inl (cA20, 1200, .inl f021)), (a24, .inr (3, [.ref b29, .ref t110, .ref t211, .ref t312, .int 0])), (b29, .inr (0, [.ref yb13, .int 0])), (a35, .inr (1, [.ref h114, .ref h215, .ref h316, .int 0, .int 0, .int 0])), (a57, .inr (5, [.ref h417, .ref b518, .int 0])), (b518, .inr (0, [.ref yc19, .int 0])), (m124, .inl (cI40, 1200, .inl f041))]) (w1 := []) hP hD [7] [0, 1, 2, 3, 4, 5, 6, 8] rfl rfl (by decide) (by decide) hk1 hFc hP1 hD1
  have hK := (hK.sub (tys' := [(cA20, .byte), (cI40, .int)]) [0, 1] rfl).app hK1
  generalize H1 = H at hP hS ⊢
  have hP : va_P (dC, dI) vwCl [(a13, .inr (0, [.ref ya8, .int 0])), (ya8, .inl (cA20, 1200, .inl f021)), (a24, .inr (3, [.ref b29, .ref t110, .ref t211, .ref t312, .int 0])), (b29, .inr (0, [.ref yb13, .int 0])), (a35, .inr (1, [.ref h114, .ref h215, .ref h316, .int 0, .int 0, .int 0])), (a57, .inr (5, [.ref h417, .ref b518, .int 0])), (b518, .inr (0, [.ref yc19, .int 0])), (m124, .inl (cI40, 1200, .inl f041))] H := hP
  have hD : va_D (fun q : Nat => s.heap.size ≤ q) [(a13, .inr (0, [.ref ya8, .int 0])), (ya8, .inl (cA20, 1200, .inl f021)), (a24, .inr (3, [.ref b29, .ref t110, .ref t211, .ref t312, .int 0])), (b29, .inr (0, [.ref yb13, .int 0])), (a35, .inr (1, [.ref h114, .ref h215, .ref h316, .int 0, .int 0, .int 0])), (a57, .inr (5, [.ref h417, .ref b518, .int 0])), (b518, .inr (0, [.ref yc19, .int 0])), (m124, .inl (cI40, 1200, .inl f041))] := hD
  have hK : va_K (dC, dI) vwCl [(cA20, .byte), (cI40, .int)] s := hK
  have hw : r2 = (-4) := hw
  subst hw
  refine lv_icmp_eq (tgt := 600) hx hb dL_law_384 (by decide) (fun c_384 => ?_) (fun c_384 => absurd (rfl) c_384)
  exact law_end C0 hS (lv_sub hl [3, 0] rfl)

set_option maxHeartbeats 4000000 in
set_option maxRecDepth 100000 in
theorem law_level {p : Program} {l : Launch} {e : Env} {s : State} {m : MethodId} {below : List Frame} {meth : Method} {c : Code} {b : Nat} {xs : Nat → Int32} (C0 : lw_At p s m meth c b 4 xs) {dC : Nat → ClassId} {dI : Nat → Nat → Nat} {q1 a13 a24 a35 a46 a57 ya8 b29 t110 t211 t312 yb13 h114 h215 h316 h417 b518 yc19 q22 m124 m225 m326 m427 m528 m629 m730 m831 m932 m1033 m1134 m1235 m1336 m1437 m1538 m1639 : Nat} {cA20 cI40 : ClassId} {f021 f041 : Nat → Int32} {H : Heap} {locs : List Loc} (hK : va_K (dC, dI) vwCl [(cA20, .byte), (cI40, .int)] s) (hP : va_P (dC, dI) vwCl [(q1, .inr (6, [.ref a13, .ref a24, .ref a35, .ref a46, .ref a57, .int (-1), .int 0])), (a13, .inr (0, [.ref ya8, .int 0])), (ya8, .inl (cA20, 1200, .inl f021)), (a24, .inr (3, [.ref b29, .ref t110, .ref t211, .ref t312, .int 0])), (b29, .inr (0, [.ref yb13, .int 0])), (a35, .inr (1, [.ref h114, .ref h215, .ref h316, .int 0, .int 0, .int 0])), (a57, .inr (5, [.ref h417, .ref b518, .int 0])), (b518, .inr (0, [.ref yc19, .int 0])), (q22, .inr (7, [.int 0, .ref m124, .int 0, .int (-1), .int 0, .int 0, .int 0, .ref m225, .int 0, .int 0, .ref m326, .ref m427, .ref m528, .ref m629, .ref m730, .ref m831, .ref m932, .int 0, .ref m1033, .ref m1134, .ref m1235, .int 0, .ref m1336, .ref m1437, .ref m1538, .int 0, .ref m1639, .int 0, .int 0])), (m124, .inl (cI40, 1200, .inl f041))] H) (hD : va_D (fun q : Nat => s.heap.size ≤ q) [(q1, .inr (6, [.ref a13, .ref a24, .ref a35, .ref a46, .ref a57, .int (-1), .int 0])), (a13, .inr (0, [.ref ya8, .int 0])), (ya8, .inl (cA20, 1200, .inl f021)), (a24, .inr (3, [.ref b29, .ref t110, .ref t211, .ref t312, .int 0])), (b29, .inr (0, [.ref yb13, .int 0])), (a35, .inr (1, [.ref h114, .ref h215, .ref h316, .int 0, .int 0, .int 0])), (a57, .inr (5, [.ref h417, .ref b518, .int 0])), (b518, .inr (0, [.ref yc19, .int 0])), (q22, .inr (7, [.int 0, .ref m124, .int 0, .int (-1), .int 0, .int 0, .int 0, .ref m225, .int 0, .int 0, .ref m326, .ref m427, .ref m528, .ref m629, .ref m730, .ref m831, .ref m932, .int 0, .ref m1033, .ref m1134, .ref m1235, .int 0, .ref m1336, .ref m1437, .ref m1538, .int 0, .ref m1639, .int 0, .int 0])), (m124, .inl (cI40, 1200, .inl f041))]) (hS : va_S (fun q : Nat => s.heap.size ≤ q) s.heap H locs) {ls : Array Slot} (hl : lv_has ls 4 [(3, .int 0), (2, .ref q22), (1, .ref q1), (0, .ref b)]) : W p l e room_1 s m #[Value.ref b] below meth c H locs 40 14459 (lw_Z below #[Value.ref b] s) (F0 m 389 ls []) := by
  obtain ⟨hx, hb, hr, hml, hown0, hts0, hX, hbl, hlocks, hgv⟩ := id C0
  have hown : s.vm.findClass RL = some m.cls := hown0
  have hts : ∀ w ∈ pwAll, w.before #[Value.ref b] s = true := fun w h => hts0 w (pwAll_in w h)
  have hA : ∀ q : Nat, s.heap.size ≤ q → (fun q : Nat => s.heap.size ≤ q) q := fun _ h => h
  have hbA : ¬ (fun q : Nat => s.heap.size ≤ q) b := Nat.not_le.mpr hbl
  refine lv_aload_n hx hb dL_law_389 rfl (lv_at hl 2 rfl) ?_
  refine lv_aload_n hx hb dL_law_390 rfl (lv_at hl 3 rfl) ?_
  refine lv_iload_n hx hb dL_law_391 rfl (lv_at hl 0 rfl) ?_
  refine lv_iconst (v := 1) hx hb dL_law_392 (by decide) ?_
  refine lv_iadd hx hb dL_law_393 ?_
  refine pf_top (y := 1) (by decide) ?_
  refine va_sld hx hb hX hbl hbA hS pf_i1 dL_law_394 ?_
  refine lv_aload_n hx hb dL_law_395 rfl (lv_at hl 3 rfl) ?_
  refine lv_iload_n hx hb dL_law_396 rfl (lv_at hl 0 rfl) ?_
  refine lv_iconst (v := 2) hx hb dL_law_397 (by decide) ?_
  refine lv_iadd hx hb dL_law_398 ?_
  refine pf_top (y := 2) (by decide) ?_
  refine va_sld hx hb hX hbl hbA hS pf_i2 dL_law_399 ?_
  refine lv_aload_n hx hb dL_law_400 rfl (lv_at hl 3 rfl) ?_
  refine lv_iload_n hx hb dL_law_401 rfl (lv_at hl 0 rfl) ?_
  refine lv_iconst (v := 3) hx hb dL_law_402 (by decide) ?_
  refine lv_iadd hx hb dL_law_403 ?_
  refine pf_top (y := 3) (by decide) ?_
  refine va_sld hx hb hX hbl hbA hS pf_i3 dL_law_404 ?_
  have hPc := hP.sub (ws' := [(q1, .inr (6, [.ref a13, .ref a24, .ref a35, .ref a46, .ref a57, .int (-1), .int 0]))]) [0] rfl
  have hDc := hD.sub (ws' := [(q1, .inr (6, [.ref a13, .ref a24, .ref a35, .ref a46, .ref a57, .int (-1), .int 0]))]) [0] (by decide) rfl
  have hKc := hK.sub (tys' := []) [] rfl
  have hFc := va_free (wc := [(q1, .inr (6, [.ref a13, .ref a24, .ref a35, .ref a46, .ref a57, .int (-1), .int 0]))]) hD hS hA [0] rfl
  refine va_calli (va_runV (As := [.int (xs (1 : Int32).toNatClampNeg), .int (xs (2 : Int32).toNatClampNeg), .int (xs (3 : Int32).toNatClampNeg)]) (rest := []) ⟨hx, hb, hml, hown, hts⟩ (c_X6_level l dC dI H.size q1 a13 a24 a35 a46 a57 (xs (1 : Int32).toNatClampNeg) (xs (2 : Int32).toNatClampNeg) (xs (3 : Int32).toNatClampNeg)) (cwV 3 hts gg_RL_56 rfl rfl rfl (by decide +kernel) ⟨Nat.le_of_ble_eq_true rfl, Nat.le_of_ble_eq_true rfl⟩) ⟨fun a U g mk q => by obtain ⟨q0, q1, qP, qK, qD⟩ := q; exact ⟨q0, q1, qP, va_K.moved (u := U) (U := U.calling g mk a) (Vm.Alike.refl U.vm) qK, qD⟩, va_recv hK hP (ci := 6) (q0 := 0) rfl rfl, fun U hU hW => ⟨rfl, by rw [hU], by rw [hU]; exact hPc, va_K.moved hW.alike hKc, hDc.weaken (fun _ _ _ _ => trivial)⟩⟩ rfl rfl hl.1 rfl (lv_room (Nat.le_of_ble_eq_true rfl)) dL_law_405 ⟨Nat.le_of_ble_eq_true rfl, Nat.le_of_ble_eq_true rfl⟩) hS (fun q _ h => hFc q h) hFc (fun r1 u t H1 locs ht hvm hw hB hz1 hk1 hS => ?_)
  obtain ⟨hP1, hK1, hD1⟩ := hB
  rw [ht] at hP1
  have hK1 := va_K.moved hvm.symm hK1
  obtain ⟨hP, hD⟩ := va_join (wr := [(a13, .inr (0, [.ref ya8, .int 0])), (ya8, .inl (cA20, 1200, .inl f021)), (a24, .inr (3, [.ref b29, .ref t110, .ref t211, .ref t312, .int 0])), (b29, .inr (0, [.ref yb13, .int 0])), (a35, .inr (1, [.ref h114, .ref h215, .ref h316, .int 0, .int 0, .int 0])), (a57, .inr (5, [.ref h417, .ref b518, .int 0])), (b518, .inr (0, [.ref yc19, .int 0])), (q22, .inr (7, [.int 0, .ref m124, .int 0, .int (-1), .int 0, .int 0, .int 0, .ref m225, .int 0, .int 0, .ref m326, .ref m427, .ref m528, .ref m629, .ref m730, .ref m831, .ref m932, .int 0, .ref m1033, .ref m1134, .ref m1235, .int 0, .ref m1336, .ref m1437, .ref m1538, .int 0, .ref m1639, .int 0, .int 0])), (m124, .inl (cI40, 1200, .inl f041))]) (w1 := []) hP hD [0] [1, 2, 3, 4, 5, 6, 7, 8, 9] rfl rfl (by decide) (by decide) hk1 hFc hP1 hD1
  have hK := (hK.sub (tys' := [(cA20, .byte), (cI40, .int)]) [0, 1] rfl).app hK1
  generalize H1 = H at hP hS ⊢
  have hP : va_P (dC, dI) vwCl [(a13, .inr (0, [.ref ya8, .int 0])), (ya8, .inl (cA20, 1200, .inl f021)), (a24, .inr (3, [.ref b29, .ref t110, .ref t211, .ref t312, .int 0])), (b29, .inr (0, [.ref yb13, .int 0])), (a35, .inr (1, [.ref h114, .ref h215, .ref h316, .int 0, .int 0, .int 0])), (a57, .inr (5, [.ref h417, .ref b518, .int 0])), (b518, .inr (0, [.ref yc19, .int 0])), (q22, .inr (7, [.int 0, .ref m124, .int 0, .int (-1), .int 0, .int 0, .int 0, .ref m225, .int 0, .int 0, .ref m326, .ref m427, .ref m528, .ref m629, .ref m730, .ref m831, .ref m932, .int 0, .ref m1033, .ref m1134, .ref m1235, .int 0, .ref m1336, .ref m1437, .ref m1538, .int 0, .ref m1639, .int 0, .int 0])), (m124, .inl (cI40, 1200, .inl f041))] H := hP
  have hD : va_D (fun q : Nat => s.heap.size ≤ q) [(a13, .inr (0, [.ref ya8, .int 0])), (ya8, .inl (cA20, 1200, .inl f021)), (a24, .inr (3, [.ref b29, .ref t110, .ref t211, .ref t312, .int 0])), (b29, .inr (0, [.ref yb13, .int 0])), (a35, .inr (1, [.ref h114, .ref h215, .ref h316, .int 0, .int 0, .int 0])), (a57, .inr (5, [.ref h417, .ref b518, .int 0])), (b518, .inr (0, [.ref yc19, .int 0])), (q22, .inr (7, [.int 0, .ref m124, .int 0, .int (-1), .int 0, .int 0, .int 0, .ref m225, .int 0, .int 0, .ref m326, .ref m427, .ref m528, .ref m629, .ref m730, .ref m831, .ref m932, .int 0, .ref m1033, .ref m1134, .ref m1235, .int 0, .ref m1336, .ref m1437, .ref m1538, .int 0, .ref m1639, .int 0, .int 0])), (m124, .inl (cI40, 1200, .inl f041))] := hD
  have hK : va_K (dC, dI) vwCl [(cA20, .byte), (cI40, .int)] s := hK
  have hw : r1 = (-4) := hw
  subst hw
  refine lv_aload_n hx hb dL_law_408 rfl (lv_at hl 1 rfl) ?_
  refine lv_aload_n hx hb dL_law_409 rfl (lv_at hl 3 rfl) ?_
  refine lv_iload_n hx hb dL_law_410 rfl (lv_at hl 0 rfl) ?_
  refine lv_iconst (v := 1) hx hb dL_law_411 (by decide) ?_
  refine lv_iadd hx hb dL_law_412 ?_
  refine pf_top (y := 1) (by decide) ?_
  refine va_sld hx hb hX hbl hbA hS pf_i1 dL_law_413 ?_
  refine lv_aload_n hx hb dL_law_414 rfl (lv_at hl 3 rfl) ?_
  refine lv_iload_n hx hb dL_law_415 rfl (lv_at hl 0 rfl) ?_
  refine lv_iconst (v := 2) hx hb dL_law_416 (by decide) ?_
  refine lv_iadd hx hb dL_law_417 ?_
  refine pf_top (y := 2) (by decide) ?_
  refine va_sld hx hb hX hbl hbA hS pf_i2 dL_law_418 ?_
  refine lv_aload_n hx hb dL_law_419 rfl (lv_at hl 3 rfl) ?_
  refine lv_iload_n hx hb dL_law_420 rfl (lv_at hl 0 rfl) ?_
  refine lv_iconst (v := 3) hx hb dL_law_421 (by decide) ?_
  refine lv_iadd hx hb dL_law_422 ?_
  refine pf_top (y := 3) (by decide) ?_
  refine va_sld hx hb hX hbl hbA hS pf_i3 dL_law_423 ?_
  have hPc := hP.sub (ws' := [(q22, .inr (7, [.int 0, .ref m124, .int 0, .int (-1), .int 0, .int 0, .int 0, .ref m225, .int 0, .int 0, .ref m326, .ref m427, .ref m528, .ref m629, .ref m730, .ref m831, .ref m932, .int 0, .ref m1033, .ref m1134, .ref m1235, .int 0, .ref m1336, .ref m1437, .ref m1538, .int 0, .ref m1639, .int 0, .int 0]))]) [7] rfl
  have hDc := hD.sub (ws' := [(q22, .inr (7, [.int 0, .ref m124, .int 0, .int (-1), .int 0, .int 0, .int 0, .ref m225, .int 0, .int 0, .ref m326, .ref m427, .ref m528, .ref m629, .ref m730, .ref m831, .ref m932, .int 0, .ref m1033, .ref m1134, .ref m1235, .int 0, .ref m1336, .ref m1437, .ref m1538, .int 0, .ref m1639, .int 0, .int 0]))]) [7] (by decide) rfl
  have hKc := hK.sub (tys' := []) [] rfl
  have hFc := va_free (wc := [(q22, .inr (7, [.int 0, .ref m124, .int 0, .int (-1), .int 0, .int 0, .int 0, .ref m225, .int 0, .int 0, .ref m326, .ref m427, .ref m528, .ref m629, .ref m730, .ref m831, .ref m932, .int 0, .ref m1033, .ref m1134, .ref m1235, .int 0, .ref m1336, .ref m1437, .ref m1538, .int 0, .ref m1639, .int 0, .int 0]))]) hD hS hA [7] rfl
  refine va_calli (va_runV (As := [.int (xs (1 : Int32).toNatClampNeg), .int (xs (2 : Int32).toNatClampNeg), .int (xs (3 : Int32).toNatClampNeg)]) (rest := [.int (-4)]) ⟨hx, hb, hml, hown, hts⟩ (c_X7_level l dC dI H.size q22 m124 m225 m326 m427 m528 m629 m730 m831 m932 m1033 m1134 m1235 m1336 m1437 m1538 m1639 (xs (1 : Int32).toNatClampNeg) (xs (2 : Int32).toNatClampNeg) (xs (3 : Int32).toNatClampNeg)) (cwV 3 hts gg_RL_59 rfl rfl rfl (by decide +kernel) ⟨Nat.le_of_ble_eq_true rfl, Nat.le_of_ble_eq_true rfl⟩) ⟨fun a U g mk q => by obtain ⟨q0, q1, qP, qK, qD⟩ := q; exact ⟨q0, q1, qP, va_K.moved (u := U) (U := U.calling g mk a) (Vm.Alike.refl U.vm) qK, qD⟩, va_recv hK hP (ci := 7) (q0 := 7) rfl rfl, fun U hU hW => ⟨rfl, by rw [hU], by rw [hU]; exact hPc, va_K.moved hW.alike hKc, hDc.weaken (fun _ _ _ _ => trivial)⟩⟩ rfl rfl hl.1 rfl (lv_room (Nat.le_of_ble_eq_true rfl)) dL_law_424 ⟨Nat.le_of_ble_eq_true rfl, Nat.le_of_ble_eq_true rfl⟩) hS (fun q _ h => hFc q h) hFc (fun r2 u t H1 locs ht hvm hw hB hz1 hk1 hS => ?_)
  obtain ⟨hP1, hK1, hD1⟩ := hB
  rw [ht] at hP1
  have hK1 := va_K.moved hvm.symm hK1
  obtain ⟨hP, hD⟩ := va_join (wr := [(a13, .inr (0, [.ref ya8, .int 0])), (ya8, .inl (cA20, 1200, .inl f021)), (a24, .inr (3, [.ref b29, .ref t110, .ref t211, .ref t312, .int 0])), (b29, .inr (0, [.ref yb13, .int 0])), (a35, .inr (1, [.ref h114, .ref h215, .ref h316, .int 0, .int 0, .int 0])), (a57, .inr (5, [.ref h417, .ref b518, .int 0])), (b518, .inr (0, [.ref yc19, .int 0])), (m124, .inl (cI40, 1200, .inl f041))]) (w1 := []) hP hD [7] [0, 1, 2, 3, 4, 5, 6, 8] rfl rfl (by decide) (by decide) hk1 hFc hP1 hD1
  have hK := (hK.sub (tys' := [(cA20, .byte), (cI40, .int)]) [0, 1] rfl).app hK1
  generalize H1 = H at hP hS ⊢
  have hP : va_P (dC, dI) vwCl [(a13, .inr (0, [.ref ya8, .int 0])), (ya8, .inl (cA20, 1200, .inl f021)), (a24, .inr (3, [.ref b29, .ref t110, .ref t211, .ref t312, .int 0])), (b29, .inr (0, [.ref yb13, .int 0])), (a35, .inr (1, [.ref h114, .ref h215, .ref h316, .int 0, .int 0, .int 0])), (a57, .inr (5, [.ref h417, .ref b518, .int 0])), (b518, .inr (0, [.ref yc19, .int 0])), (m124, .inl (cI40, 1200, .inl f041))] H := hP
  have hD : va_D (fun q : Nat => s.heap.size ≤ q) [(a13, .inr (0, [.ref ya8, .int 0])), (ya8, .inl (cA20, 1200, .inl f021)), (a24, .inr (3, [.ref b29, .ref t110, .ref t211, .ref t312, .int 0])), (b29, .inr (0, [.ref yb13, .int 0])), (a35, .inr (1, [.ref h114, .ref h215, .ref h316, .int 0, .int 0, .int 0])), (a57, .inr (5, [.ref h417, .ref b518, .int 0])), (b518, .inr (0, [.ref yc19, .int 0])), (m124, .inl (cI40, 1200, .inl f041))] := hD
  have hK : va_K (dC, dI) vwCl [(cA20, .byte), (cI40, .int)] s := hK
  have hw : r2 = (-4) := hw
  subst hw
  refine lv_icmp_eq (tgt := 600) hx hb dL_law_427 (by decide) (fun c_427 => ?_) (fun c_427 => absurd (rfl) c_427)
  exact law_end C0 hS (lv_sub hl [3, 0] rfl)

set_option maxHeartbeats 4000000 in
set_option maxRecDepth 100000 in
theorem law_claim {p : Program} {l : Launch} {e : Env} {s : State} {m : MethodId} {below : List Frame} {meth : Method} {c : Code} {b : Nat} {xs : Nat → Int32} (C0 : lw_At p s m meth c b 4 xs) {dC : Nat → ClassId} {dI : Nat → Nat → Nat} {q1 a13 a24 a35 a46 a57 ya8 b29 t110 t211 t312 yb13 h114 h215 h316 h417 b518 yc19 q22 m124 m225 m326 m427 m528 m629 m730 m831 m932 m1033 m1134 m1235 m1336 m1437 m1538 m1639 : Nat} {cA20 cI40 : ClassId} {f021 f041 : Nat → Int32} {H : Heap} {locs : List Loc} (hK : va_K (dC, dI) vwCl [(cA20, .byte), (cI40, .int)] s) (hP : va_P (dC, dI) vwCl [(q1, .inr (6, [.ref a13, .ref a24, .ref a35, .ref a46, .ref a57, .int (-1), .int 0])), (a13, .inr (0, [.ref ya8, .int 0])), (ya8, .inl (cA20, 1200, .inl f021)), (a24, .inr (3, [.ref b29, .ref t110, .ref t211, .ref t312, .int 0])), (b29, .inr (0, [.ref yb13, .int 0])), (a35, .inr (1, [.ref h114, .ref h215, .ref h316, .int 0, .int 0, .int 0])), (a57, .inr (5, [.ref h417, .ref b518, .int 0])), (b518, .inr (0, [.ref yc19, .int 0])), (q22, .inr (7, [.int 0, .ref m124, .int 0, .int (-1), .int 0, .int 0, .int 0, .ref m225, .int 0, .int 0, .ref m326, .ref m427, .ref m528, .ref m629, .ref m730, .ref m831, .ref m932, .int 0, .ref m1033, .ref m1134, .ref m1235, .int 0, .ref m1336, .ref m1437, .ref m1538, .int 0, .ref m1639, .int 0, .int 0])), (m124, .inl (cI40, 1200, .inl f041))] H) (hD : va_D (fun q : Nat => s.heap.size ≤ q) [(q1, .inr (6, [.ref a13, .ref a24, .ref a35, .ref a46, .ref a57, .int (-1), .int 0])), (a13, .inr (0, [.ref ya8, .int 0])), (ya8, .inl (cA20, 1200, .inl f021)), (a24, .inr (3, [.ref b29, .ref t110, .ref t211, .ref t312, .int 0])), (b29, .inr (0, [.ref yb13, .int 0])), (a35, .inr (1, [.ref h114, .ref h215, .ref h316, .int 0, .int 0, .int 0])), (a57, .inr (5, [.ref h417, .ref b518, .int 0])), (b518, .inr (0, [.ref yc19, .int 0])), (q22, .inr (7, [.int 0, .ref m124, .int 0, .int (-1), .int 0, .int 0, .int 0, .ref m225, .int 0, .int 0, .ref m326, .ref m427, .ref m528, .ref m629, .ref m730, .ref m831, .ref m932, .int 0, .ref m1033, .ref m1134, .ref m1235, .int 0, .ref m1336, .ref m1437, .ref m1538, .int 0, .ref m1639, .int 0, .int 0])), (m124, .inl (cI40, 1200, .inl f041))]) (hS : va_S (fun q : Nat => s.heap.size ≤ q) s.heap H locs) {ls : Array Slot} (hl : lv_has ls 4 [(3, .int 0), (2, .ref q22), (1, .ref q1), (0, .ref b)]) : W p l e room_1 s m #[Value.ref b] below meth c H locs 40 14459 (lw_Z below #[Value.ref b] s) (F0 m 432 ls []) := by
  obtain ⟨hx, hb, hr, hml, hown0, hts0, hX, hbl, hlocks, hgv⟩ := id C0
  have hown : s.vm.findClass RL = some m.cls := hown0
  have hts : ∀ w ∈ pwAll, w.before #[Value.ref b] s = true := fun w h => hts0 w (pwAll_in w h)
  have hA : ∀ q : Nat, s.heap.size ≤ q → (fun q : Nat => s.heap.size ≤ q) q := fun _ h => h
  have hbA : ¬ (fun q : Nat => s.heap.size ≤ q) b := Nat.not_le.mpr hbl
  refine lv_aload_n hx hb dL_law_432 rfl (lv_at hl 2 rfl) ?_
  refine lv_aload_n hx hb dL_law_433 rfl (lv_at hl 3 rfl) ?_
  refine lv_iload_n hx hb dL_law_434 rfl (lv_at hl 0 rfl) ?_
  refine lv_iconst (v := 1) hx hb dL_law_435 (by decide) ?_
  refine lv_iadd hx hb dL_law_436 ?_
  refine pf_top (y := 1) (by decide) ?_
  refine va_sld hx hb hX hbl hbA hS pf_i1 dL_law_437 ?_
  refine lv_aload_n hx hb dL_law_438 rfl (lv_at hl 3 rfl) ?_
  refine lv_iload_n hx hb dL_law_439 rfl (lv_at hl 0 rfl) ?_
  refine lv_iconst (v := 2) hx hb dL_law_440 (by decide) ?_
  refine lv_iadd hx hb dL_law_441 ?_
  refine pf_top (y := 2) (by decide) ?_
  refine va_sld hx hb hX hbl hbA hS pf_i2 dL_law_442 ?_
  refine lv_aload_n hx hb dL_law_443 rfl (lv_at hl 3 rfl) ?_
  refine lv_iload_n hx hb dL_law_444 rfl (lv_at hl 0 rfl) ?_
  refine lv_iconst (v := 3) hx hb dL_law_445 (by decide) ?_
  refine lv_iadd hx hb dL_law_446 ?_
  refine pf_top (y := 3) (by decide) ?_
  refine va_sld hx hb hX hbl hbA hS pf_i3 dL_law_447 ?_
  have hPc := hP.sub (ws' := [(q1, .inr (6, [.ref a13, .ref a24, .ref a35, .ref a46, .ref a57, .int (-1), .int 0]))]) [0] rfl
  have hDc := hD.sub (ws' := [(q1, .inr (6, [.ref a13, .ref a24, .ref a35, .ref a46, .ref a57, .int (-1), .int 0]))]) [0] (by decide) rfl
  have hKc := hK.sub (tys' := []) [] rfl
  have hFc := va_free (wc := [(q1, .inr (6, [.ref a13, .ref a24, .ref a35, .ref a46, .ref a57, .int (-1), .int 0]))]) hD hS hA [0] rfl
  refine va_calli (va_runV (As := [.int (xs (1 : Int32).toNatClampNeg), .int (xs (2 : Int32).toNatClampNeg), .int (xs (3 : Int32).toNatClampNeg)]) (rest := []) ⟨hx, hb, hml, hown, hts⟩ (c_X6_claim l dC dI H.size q1 a13 a24 a35 a46 a57 (xs (1 : Int32).toNatClampNeg) (xs (2 : Int32).toNatClampNeg) (xs (3 : Int32).toNatClampNeg)) (cwV 3 hts gg_RL_60 rfl rfl rfl (by decide +kernel) ⟨Nat.le_of_ble_eq_true rfl, Nat.le_of_ble_eq_true rfl⟩) ⟨fun a U g mk q => by obtain ⟨q0, q1, qP, qK, qD⟩ := q; exact ⟨q0, q1, qP, va_K.moved (u := U) (U := U.calling g mk a) (Vm.Alike.refl U.vm) qK, qD⟩, va_recv hK hP (ci := 6) (q0 := 0) rfl rfl, fun U hU hW => ⟨rfl, by rw [hU], by rw [hU]; exact hPc, va_K.moved hW.alike hKc, hDc.weaken (fun _ _ _ _ => trivial)⟩⟩ rfl rfl hl.1 rfl (lv_room (Nat.le_of_ble_eq_true rfl)) dL_law_448 ⟨Nat.le_of_ble_eq_true rfl, Nat.le_of_ble_eq_true rfl⟩) hS (fun q _ h => hFc q h) hFc (fun r1 u t H1 locs ht hvm hw hB hz1 hk1 hS => ?_)
  obtain ⟨hP1, hK1, hD1⟩ := hB
  rw [ht] at hP1
  have hK1 := va_K.moved hvm.symm hK1
  obtain ⟨hP, hD⟩ := va_join (wr := [(a13, .inr (0, [.ref ya8, .int 0])), (ya8, .inl (cA20, 1200, .inl f021)), (a24, .inr (3, [.ref b29, .ref t110, .ref t211, .ref t312, .int 0])), (b29, .inr (0, [.ref yb13, .int 0])), (a35, .inr (1, [.ref h114, .ref h215, .ref h316, .int 0, .int 0, .int 0])), (a57, .inr (5, [.ref h417, .ref b518, .int 0])), (b518, .inr (0, [.ref yc19, .int 0])), (q22, .inr (7, [.int 0, .ref m124, .int 0, .int (-1), .int 0, .int 0, .int 0, .ref m225, .int 0, .int 0, .ref m326, .ref m427, .ref m528, .ref m629, .ref m730, .ref m831, .ref m932, .int 0, .ref m1033, .ref m1134, .ref m1235, .int 0, .ref m1336, .ref m1437, .ref m1538, .int 0, .ref m1639, .int 0, .int 0])), (m124, .inl (cI40, 1200, .inl f041))]) (w1 := []) hP hD [0] [1, 2, 3, 4, 5, 6, 7, 8, 9] rfl rfl (by decide) (by decide) hk1 hFc hP1 hD1
  have hK := (hK.sub (tys' := [(cA20, .byte), (cI40, .int)]) [0, 1] rfl).app hK1
  generalize H1 = H at hP hS ⊢
  have hP : va_P (dC, dI) vwCl [(a13, .inr (0, [.ref ya8, .int 0])), (ya8, .inl (cA20, 1200, .inl f021)), (a24, .inr (3, [.ref b29, .ref t110, .ref t211, .ref t312, .int 0])), (b29, .inr (0, [.ref yb13, .int 0])), (a35, .inr (1, [.ref h114, .ref h215, .ref h316, .int 0, .int 0, .int 0])), (a57, .inr (5, [.ref h417, .ref b518, .int 0])), (b518, .inr (0, [.ref yc19, .int 0])), (q22, .inr (7, [.int 0, .ref m124, .int 0, .int (-1), .int 0, .int 0, .int 0, .ref m225, .int 0, .int 0, .ref m326, .ref m427, .ref m528, .ref m629, .ref m730, .ref m831, .ref m932, .int 0, .ref m1033, .ref m1134, .ref m1235, .int 0, .ref m1336, .ref m1437, .ref m1538, .int 0, .ref m1639, .int 0, .int 0])), (m124, .inl (cI40, 1200, .inl f041))] H := hP
  have hD : va_D (fun q : Nat => s.heap.size ≤ q) [(a13, .inr (0, [.ref ya8, .int 0])), (ya8, .inl (cA20, 1200, .inl f021)), (a24, .inr (3, [.ref b29, .ref t110, .ref t211, .ref t312, .int 0])), (b29, .inr (0, [.ref yb13, .int 0])), (a35, .inr (1, [.ref h114, .ref h215, .ref h316, .int 0, .int 0, .int 0])), (a57, .inr (5, [.ref h417, .ref b518, .int 0])), (b518, .inr (0, [.ref yc19, .int 0])), (q22, .inr (7, [.int 0, .ref m124, .int 0, .int (-1), .int 0, .int 0, .int 0, .ref m225, .int 0, .int 0, .ref m326, .ref m427, .ref m528, .ref m629, .ref m730, .ref m831, .ref m932, .int 0, .ref m1033, .ref m1134, .ref m1235, .int 0, .ref m1336, .ref m1437, .ref m1538, .int 0, .ref m1639, .int 0, .int 0])), (m124, .inl (cI40, 1200, .inl f041))] := hD
  have hK : va_K (dC, dI) vwCl [(cA20, .byte), (cI40, .int)] s := hK
  have hw : r1 = (-4) := hw
  subst hw
  refine lv_aload_n hx hb dL_law_451 rfl (lv_at hl 1 rfl) ?_
  refine lv_aload_n hx hb dL_law_452 rfl (lv_at hl 3 rfl) ?_
  refine lv_iload_n hx hb dL_law_453 rfl (lv_at hl 0 rfl) ?_
  refine lv_iconst (v := 1) hx hb dL_law_454 (by decide) ?_
  refine lv_iadd hx hb dL_law_455 ?_
  refine pf_top (y := 1) (by decide) ?_
  refine va_sld hx hb hX hbl hbA hS pf_i1 dL_law_456 ?_
  refine lv_aload_n hx hb dL_law_457 rfl (lv_at hl 3 rfl) ?_
  refine lv_iload_n hx hb dL_law_458 rfl (lv_at hl 0 rfl) ?_
  refine lv_iconst (v := 2) hx hb dL_law_459 (by decide) ?_
  refine lv_iadd hx hb dL_law_460 ?_
  refine pf_top (y := 2) (by decide) ?_
  refine va_sld hx hb hX hbl hbA hS pf_i2 dL_law_461 ?_
  refine lv_aload_n hx hb dL_law_462 rfl (lv_at hl 3 rfl) ?_
  refine lv_iload_n hx hb dL_law_463 rfl (lv_at hl 0 rfl) ?_
  refine lv_iconst (v := 3) hx hb dL_law_464 (by decide) ?_
  refine lv_iadd hx hb dL_law_465 ?_
  refine pf_top (y := 3) (by decide) ?_
  refine va_sld hx hb hX hbl hbA hS pf_i3 dL_law_466 ?_
  have hPc := hP.sub (ws' := [(q22, .inr (7, [.int 0, .ref m124, .int 0, .int (-1), .int 0, .int 0, .int 0, .ref m225, .int 0, .int 0, .ref m326, .ref m427, .ref m528, .ref m629, .ref m730, .ref m831, .ref m932, .int 0, .ref m1033, .ref m1134, .ref m1235, .int 0, .ref m1336, .ref m1437, .ref m1538, .int 0, .ref m1639, .int 0, .int 0]))]) [7] rfl
  have hDc := hD.sub (ws' := [(q22, .inr (7, [.int 0, .ref m124, .int 0, .int (-1), .int 0, .int 0, .int 0, .ref m225, .int 0, .int 0, .ref m326, .ref m427, .ref m528, .ref m629, .ref m730, .ref m831, .ref m932, .int 0, .ref m1033, .ref m1134, .ref m1235, .int 0, .ref m1336, .ref m1437, .ref m1538, .int 0, .ref m1639, .int 0, .int 0]))]) [7] (by decide) rfl
  have hKc := hK.sub (tys' := []) [] rfl
  have hFc := va_free (wc := [(q22, .inr (7, [.int 0, .ref m124, .int 0, .int (-1), .int 0, .int 0, .int 0, .ref m225, .int 0, .int 0, .ref m326, .ref m427, .ref m528, .ref m629, .ref m730, .ref m831, .ref m932, .int 0, .ref m1033, .ref m1134, .ref m1235, .int 0, .ref m1336, .ref m1437, .ref m1538, .int 0, .ref m1639, .int 0, .int 0]))]) hD hS hA [7] rfl
  refine va_calli (va_runV (As := [.int (xs (1 : Int32).toNatClampNeg), .int (xs (2 : Int32).toNatClampNeg), .int (xs (3 : Int32).toNatClampNeg)]) (rest := [.int (-4)]) ⟨hx, hb, hml, hown, hts⟩ (c_X7_claim l dC dI H.size q22 m124 m225 m326 m427 m528 m629 m730 m831 m932 m1033 m1134 m1235 m1336 m1437 m1538 m1639 (xs (1 : Int32).toNatClampNeg) (xs (2 : Int32).toNatClampNeg) (xs (3 : Int32).toNatClampNeg)) (cwV 3 hts gg_RL_63 rfl rfl rfl (by decide +kernel) ⟨Nat.le_of_ble_eq_true rfl, Nat.le_of_ble_eq_true rfl⟩) ⟨fun a U g mk q => by obtain ⟨q0, q1, qP, qK, qD⟩ := q; exact ⟨q0, q1, qP, va_K.moved (u := U) (U := U.calling g mk a) (Vm.Alike.refl U.vm) qK, qD⟩, va_recv hK hP (ci := 7) (q0 := 7) rfl rfl, fun U hU hW => ⟨rfl, by rw [hU], by rw [hU]; exact hPc, va_K.moved hW.alike hKc, hDc.weaken (fun _ _ _ _ => trivial)⟩⟩ rfl rfl hl.1 rfl (lv_room (Nat.le_of_ble_eq_true rfl)) dL_law_467 ⟨Nat.le_of_ble_eq_true rfl, Nat.le_of_ble_eq_true rfl⟩) hS (fun q _ h => hFc q h) hFc (fun r2 u t H1 locs ht hvm hw hB hz1 hk1 hS => ?_)
  obtain ⟨hP1, hK1, hD1⟩ := hB
  rw [ht] at hP1
  have hK1 := va_K.moved hvm.symm hK1
  obtain ⟨hP, hD⟩ := va_join (wr := [(a13, .inr (0, [.ref ya8, .int 0])), (ya8, .inl (cA20, 1200, .inl f021)), (a24, .inr (3, [.ref b29, .ref t110, .ref t211, .ref t312, .int 0])), (b29, .inr (0, [.ref yb13, .int 0])), (a35, .inr (1, [.ref h114, .ref h215, .ref h316, .int 0, .int 0, .int 0])), (a57, .inr (5, [.ref h417, .ref b518, .int 0])), (b518, .inr (0, [.ref yc19, .int 0])), (m124, .inl (cI40, 1200, .inl f041))]) (w1 := []) hP hD [7] [0, 1, 2, 3, 4, 5, 6, 8] rfl rfl (by decide) (by decide) hk1 hFc hP1 hD1
  have hK := (hK.sub (tys' := [(cA20, .byte), (cI40, .int)]) [0, 1] rfl).app hK1
  generalize H1 = H at hP hS ⊢
  have hP : va_P (dC, dI) vwCl [(a13, .inr (0, [.ref ya8, .int 0])), (ya8, .inl (cA20, 1200, .inl f021)), (a24, .inr (3, [.ref b29, .ref t110, .ref t211, .ref t312, .int 0])), (b29, .inr (0, [.ref yb13, .int 0])), (a35, .inr (1, [.ref h114, .ref h215, .ref h316, .int 0, .int 0, .int 0])), (a57, .inr (5, [.ref h417, .ref b518, .int 0])), (b518, .inr (0, [.ref yc19, .int 0])), (m124, .inl (cI40, 1200, .inl f041))] H := hP
  have hD : va_D (fun q : Nat => s.heap.size ≤ q) [(a13, .inr (0, [.ref ya8, .int 0])), (ya8, .inl (cA20, 1200, .inl f021)), (a24, .inr (3, [.ref b29, .ref t110, .ref t211, .ref t312, .int 0])), (b29, .inr (0, [.ref yb13, .int 0])), (a35, .inr (1, [.ref h114, .ref h215, .ref h316, .int 0, .int 0, .int 0])), (a57, .inr (5, [.ref h417, .ref b518, .int 0])), (b518, .inr (0, [.ref yc19, .int 0])), (m124, .inl (cI40, 1200, .inl f041))] := hD
  have hK : va_K (dC, dI) vwCl [(cA20, .byte), (cI40, .int)] s := hK
  have hw : r2 = (-4) := hw
  subst hw
  refine lv_icmp_eq (tgt := 600) hx hb dL_law_470 (by decide) (fun c_470 => ?_) (fun c_470 => absurd (rfl) c_470)
  exact law_end C0 hS (lv_sub hl [3, 0] rfl)

set_option maxHeartbeats 4000000 in
set_option maxRecDepth 100000 in
theorem law_size {p : Program} {l : Launch} {e : Env} {s : State} {m : MethodId} {below : List Frame} {meth : Method} {c : Code} {b : Nat} {xs : Nat → Int32} (C0 : lw_At p s m meth c b 4 xs) {dC : Nat → ClassId} {dI : Nat → Nat → Nat} {q1 a13 a24 a35 a46 a57 ya8 b29 t110 t211 t312 yb13 h114 h215 h316 h417 b518 yc19 q22 m124 m225 m326 m427 m528 m629 m730 m831 m932 m1033 m1134 m1235 m1336 m1437 m1538 m1639 : Nat} {cA20 cI40 : ClassId} {f021 f041 : Nat → Int32} {H : Heap} {locs : List Loc} (hK : va_K (dC, dI) vwCl [(cA20, .byte), (cI40, .int)] s) (hP : va_P (dC, dI) vwCl [(q1, .inr (6, [.ref a13, .ref a24, .ref a35, .ref a46, .ref a57, .int (-1), .int 0])), (a13, .inr (0, [.ref ya8, .int 0])), (ya8, .inl (cA20, 1200, .inl f021)), (a24, .inr (3, [.ref b29, .ref t110, .ref t211, .ref t312, .int 0])), (b29, .inr (0, [.ref yb13, .int 0])), (a35, .inr (1, [.ref h114, .ref h215, .ref h316, .int 0, .int 0, .int 0])), (a57, .inr (5, [.ref h417, .ref b518, .int 0])), (b518, .inr (0, [.ref yc19, .int 0])), (q22, .inr (7, [.int 0, .ref m124, .int 0, .int (-1), .int 0, .int 0, .int 0, .ref m225, .int 0, .int 0, .ref m326, .ref m427, .ref m528, .ref m629, .ref m730, .ref m831, .ref m932, .int 0, .ref m1033, .ref m1134, .ref m1235, .int 0, .ref m1336, .ref m1437, .ref m1538, .int 0, .ref m1639, .int 0, .int 0])), (m124, .inl (cI40, 1200, .inl f041))] H) (hD : va_D (fun q : Nat => s.heap.size ≤ q) [(q1, .inr (6, [.ref a13, .ref a24, .ref a35, .ref a46, .ref a57, .int (-1), .int 0])), (a13, .inr (0, [.ref ya8, .int 0])), (ya8, .inl (cA20, 1200, .inl f021)), (a24, .inr (3, [.ref b29, .ref t110, .ref t211, .ref t312, .int 0])), (b29, .inr (0, [.ref yb13, .int 0])), (a35, .inr (1, [.ref h114, .ref h215, .ref h316, .int 0, .int 0, .int 0])), (a57, .inr (5, [.ref h417, .ref b518, .int 0])), (b518, .inr (0, [.ref yc19, .int 0])), (q22, .inr (7, [.int 0, .ref m124, .int 0, .int (-1), .int 0, .int 0, .int 0, .ref m225, .int 0, .int 0, .ref m326, .ref m427, .ref m528, .ref m629, .ref m730, .ref m831, .ref m932, .int 0, .ref m1033, .ref m1134, .ref m1235, .int 0, .ref m1336, .ref m1437, .ref m1538, .int 0, .ref m1639, .int 0, .int 0])), (m124, .inl (cI40, 1200, .inl f041))]) (hS : va_S (fun q : Nat => s.heap.size ≤ q) s.heap H locs) {ls : Array Slot} (hl : lv_has ls 4 [(3, .int 0), (2, .ref q22), (1, .ref q1), (0, .ref b)]) : W p l e room_1 s m #[Value.ref b] below meth c H locs 40 14459 (lw_Z below #[Value.ref b] s) (F0 m 475 ls []) := by
  obtain ⟨hx, hb, hr, hml, hown0, hts0, hX, hbl, hlocks, hgv⟩ := id C0
  have hown : s.vm.findClass RL = some m.cls := hown0
  have hts : ∀ w ∈ pwAll, w.before #[Value.ref b] s = true := fun w h => hts0 w (pwAll_in w h)
  have hA : ∀ q : Nat, s.heap.size ≤ q → (fun q : Nat => s.heap.size ≤ q) q := fun _ h => h
  have hbA : ¬ (fun q : Nat => s.heap.size ≤ q) b := Nat.not_le.mpr hbl
  refine lv_aload_n hx hb dL_law_475 rfl (lv_at hl 2 rfl) ?_
  refine lv_aload_n hx hb dL_law_476 rfl (lv_at hl 3 rfl) ?_
  refine lv_iload_n hx hb dL_law_477 rfl (lv_at hl 0 rfl) ?_
  refine lv_iconst (v := 1) hx hb dL_law_478 (by decide) ?_
  refine lv_iadd hx hb dL_law_479 ?_
  refine pf_top (y := 1) (by decide) ?_
  refine va_sld hx hb hX hbl hbA hS pf_i1 dL_law_480 ?_
  refine lv_aload_n hx hb dL_law_481 rfl (lv_at hl 3 rfl) ?_
  refine lv_iload_n hx hb dL_law_482 rfl (lv_at hl 0 rfl) ?_
  refine lv_iconst (v := 2) hx hb dL_law_483 (by decide) ?_
  refine lv_iadd hx hb dL_law_484 ?_
  refine pf_top (y := 2) (by decide) ?_
  refine va_sld hx hb hX hbl hbA hS pf_i2 dL_law_485 ?_
  have hPc := hP.sub (ws' := [(q1, .inr (6, [.ref a13, .ref a24, .ref a35, .ref a46, .ref a57, .int (-1), .int 0]))]) [0] rfl
  have hDc := hD.sub (ws' := [(q1, .inr (6, [.ref a13, .ref a24, .ref a35, .ref a46, .ref a57, .int (-1), .int 0]))]) [0] (by decide) rfl
  have hKc := hK.sub (tys' := []) [] rfl
  have hFc := va_free (wc := [(q1, .inr (6, [.ref a13, .ref a24, .ref a35, .ref a46, .ref a57, .int (-1), .int 0]))]) hD hS hA [0] rfl
  refine va_calli (va_runV (As := [.int (xs (1 : Int32).toNatClampNeg), .int (xs (2 : Int32).toNatClampNeg)]) (rest := []) ⟨hx, hb, hml, hown, hts⟩ (c_X6_size l dC dI H.size q1 a13 a24 a35 a46 a57 (xs (1 : Int32).toNatClampNeg) (xs (2 : Int32).toNatClampNeg)) (cwV 2 hts gg_RL_64 rfl rfl rfl (by decide +kernel) ⟨Nat.le_of_ble_eq_true rfl, Nat.le_of_ble_eq_true rfl⟩) ⟨fun a U g mk q => by obtain ⟨q0, q1, qP, qK, qD⟩ := q; exact ⟨q0, q1, qP, va_K.moved (u := U) (U := U.calling g mk a) (Vm.Alike.refl U.vm) qK, qD⟩, va_recv hK hP (ci := 6) (q0 := 0) rfl rfl, fun U hU hW => ⟨rfl, by rw [hU], by rw [hU]; exact hPc, va_K.moved hW.alike hKc, hDc.weaken (fun _ _ _ _ => trivial)⟩⟩ rfl rfl hl.1 rfl (lv_room (Nat.le_of_ble_eq_true rfl)) dL_law_486 ⟨Nat.le_of_ble_eq_true rfl, Nat.le_of_ble_eq_true rfl⟩) hS (fun q _ h => hFc q h) hFc (fun r1 u t H1 locs ht hvm hw hB hz1 hk1 hS => ?_)
  obtain ⟨hP1, hK1, hD1⟩ := hB
  rw [ht] at hP1
  have hK1 := va_K.moved hvm.symm hK1
  obtain ⟨hP, hD⟩ := va_join (wr := [(a13, .inr (0, [.ref ya8, .int 0])), (ya8, .inl (cA20, 1200, .inl f021)), (a24, .inr (3, [.ref b29, .ref t110, .ref t211, .ref t312, .int 0])), (b29, .inr (0, [.ref yb13, .int 0])), (a35, .inr (1, [.ref h114, .ref h215, .ref h316, .int 0, .int 0, .int 0])), (a57, .inr (5, [.ref h417, .ref b518, .int 0])), (b518, .inr (0, [.ref yc19, .int 0])), (q22, .inr (7, [.int 0, .ref m124, .int 0, .int (-1), .int 0, .int 0, .int 0, .ref m225, .int 0, .int 0, .ref m326, .ref m427, .ref m528, .ref m629, .ref m730, .ref m831, .ref m932, .int 0, .ref m1033, .ref m1134, .ref m1235, .int 0, .ref m1336, .ref m1437, .ref m1538, .int 0, .ref m1639, .int 0, .int 0])), (m124, .inl (cI40, 1200, .inl f041))]) (w1 := []) hP hD [0] [1, 2, 3, 4, 5, 6, 7, 8, 9] rfl rfl (by decide) (by decide) hk1 hFc hP1 hD1
  have hK := (hK.sub (tys' := [(cA20, .byte), (cI40, .int)]) [0, 1] rfl).app hK1
  generalize H1 = H at hP hS ⊢
  have hP : va_P (dC, dI) vwCl [(a13, .inr (0, [.ref ya8, .int 0])), (ya8, .inl (cA20, 1200, .inl f021)), (a24, .inr (3, [.ref b29, .ref t110, .ref t211, .ref t312, .int 0])), (b29, .inr (0, [.ref yb13, .int 0])), (a35, .inr (1, [.ref h114, .ref h215, .ref h316, .int 0, .int 0, .int 0])), (a57, .inr (5, [.ref h417, .ref b518, .int 0])), (b518, .inr (0, [.ref yc19, .int 0])), (q22, .inr (7, [.int 0, .ref m124, .int 0, .int (-1), .int 0, .int 0, .int 0, .ref m225, .int 0, .int 0, .ref m326, .ref m427, .ref m528, .ref m629, .ref m730, .ref m831, .ref m932, .int 0, .ref m1033, .ref m1134, .ref m1235, .int 0, .ref m1336, .ref m1437, .ref m1538, .int 0, .ref m1639, .int 0, .int 0])), (m124, .inl (cI40, 1200, .inl f041))] H := hP
  have hD : va_D (fun q : Nat => s.heap.size ≤ q) [(a13, .inr (0, [.ref ya8, .int 0])), (ya8, .inl (cA20, 1200, .inl f021)), (a24, .inr (3, [.ref b29, .ref t110, .ref t211, .ref t312, .int 0])), (b29, .inr (0, [.ref yb13, .int 0])), (a35, .inr (1, [.ref h114, .ref h215, .ref h316, .int 0, .int 0, .int 0])), (a57, .inr (5, [.ref h417, .ref b518, .int 0])), (b518, .inr (0, [.ref yc19, .int 0])), (q22, .inr (7, [.int 0, .ref m124, .int 0, .int (-1), .int 0, .int 0, .int 0, .ref m225, .int 0, .int 0, .ref m326, .ref m427, .ref m528, .ref m629, .ref m730, .ref m831, .ref m932, .int 0, .ref m1033, .ref m1134, .ref m1235, .int 0, .ref m1336, .ref m1437, .ref m1538, .int 0, .ref m1639, .int 0, .int 0])), (m124, .inl (cI40, 1200, .inl f041))] := hD
  have hK : va_K (dC, dI) vwCl [(cA20, .byte), (cI40, .int)] s := hK
  have hw : r1 = (-4) := hw
  subst hw
  refine lv_aload_n hx hb dL_law_489 rfl (lv_at hl 1 rfl) ?_
  refine lv_aload_n hx hb dL_law_490 rfl (lv_at hl 3 rfl) ?_
  refine lv_iload_n hx hb dL_law_491 rfl (lv_at hl 0 rfl) ?_
  refine lv_iconst (v := 1) hx hb dL_law_492 (by decide) ?_
  refine lv_iadd hx hb dL_law_493 ?_
  refine pf_top (y := 1) (by decide) ?_
  refine va_sld hx hb hX hbl hbA hS pf_i1 dL_law_494 ?_
  refine lv_aload_n hx hb dL_law_495 rfl (lv_at hl 3 rfl) ?_
  refine lv_iload_n hx hb dL_law_496 rfl (lv_at hl 0 rfl) ?_
  refine lv_iconst (v := 2) hx hb dL_law_497 (by decide) ?_
  refine lv_iadd hx hb dL_law_498 ?_
  refine pf_top (y := 2) (by decide) ?_
  refine va_sld hx hb hX hbl hbA hS pf_i2 dL_law_499 ?_
  have hPc := hP.sub (ws' := [(q22, .inr (7, [.int 0, .ref m124, .int 0, .int (-1), .int 0, .int 0, .int 0, .ref m225, .int 0, .int 0, .ref m326, .ref m427, .ref m528, .ref m629, .ref m730, .ref m831, .ref m932, .int 0, .ref m1033, .ref m1134, .ref m1235, .int 0, .ref m1336, .ref m1437, .ref m1538, .int 0, .ref m1639, .int 0, .int 0]))]) [7] rfl
  have hDc := hD.sub (ws' := [(q22, .inr (7, [.int 0, .ref m124, .int 0, .int (-1), .int 0, .int 0, .int 0, .ref m225, .int 0, .int 0, .ref m326, .ref m427, .ref m528, .ref m629, .ref m730, .ref m831, .ref m932, .int 0, .ref m1033, .ref m1134, .ref m1235, .int 0, .ref m1336, .ref m1437, .ref m1538, .int 0, .ref m1639, .int 0, .int 0]))]) [7] (by decide) rfl
  have hKc := hK.sub (tys' := []) [] rfl
  have hFc := va_free (wc := [(q22, .inr (7, [.int 0, .ref m124, .int 0, .int (-1), .int 0, .int 0, .int 0, .ref m225, .int 0, .int 0, .ref m326, .ref m427, .ref m528, .ref m629, .ref m730, .ref m831, .ref m932, .int 0, .ref m1033, .ref m1134, .ref m1235, .int 0, .ref m1336, .ref m1437, .ref m1538, .int 0, .ref m1639, .int 0, .int 0]))]) hD hS hA [7] rfl
  refine va_calli (va_runV (As := [.int (xs (1 : Int32).toNatClampNeg), .int (xs (2 : Int32).toNatClampNeg)]) (rest := [.int (-4)]) ⟨hx, hb, hml, hown, hts⟩ (c_X7_size l dC dI H.size q22 m124 m225 m326 m427 m528 m629 m730 m831 m932 m1033 m1134 m1235 m1336 m1437 m1538 m1639 (xs (1 : Int32).toNatClampNeg) (xs (2 : Int32).toNatClampNeg)) (cwV 2 hts gg_RL_67 rfl rfl rfl (by decide +kernel) ⟨Nat.le_of_ble_eq_true rfl, Nat.le_of_ble_eq_true rfl⟩) ⟨fun a U g mk q => by obtain ⟨q0, q1, qP, qK, qD⟩ := q; exact ⟨q0, q1, qP, va_K.moved (u := U) (U := U.calling g mk a) (Vm.Alike.refl U.vm) qK, qD⟩, va_recv hK hP (ci := 7) (q0 := 7) rfl rfl, fun U hU hW => ⟨rfl, by rw [hU], by rw [hU]; exact hPc, va_K.moved hW.alike hKc, hDc.weaken (fun _ _ _ _ => trivial)⟩⟩ rfl rfl hl.1 rfl (lv_room (Nat.le_of_ble_eq_true rfl)) dL_law_500 ⟨Nat.le_of_ble_eq_true rfl, Nat.le_of_ble_eq_true rfl⟩) hS (fun q _ h => hFc q h) hFc (fun r2 u t H1 locs ht hvm hw hB hz1 hk1 hS => ?_)
  obtain ⟨hP1, hK1, hD1⟩ := hB
  rw [ht] at hP1
  have hK1 := va_K.moved hvm.symm hK1
  obtain ⟨hP, hD⟩ := va_join (wr := [(a13, .inr (0, [.ref ya8, .int 0])), (ya8, .inl (cA20, 1200, .inl f021)), (a24, .inr (3, [.ref b29, .ref t110, .ref t211, .ref t312, .int 0])), (b29, .inr (0, [.ref yb13, .int 0])), (a35, .inr (1, [.ref h114, .ref h215, .ref h316, .int 0, .int 0, .int 0])), (a57, .inr (5, [.ref h417, .ref b518, .int 0])), (b518, .inr (0, [.ref yc19, .int 0])), (m124, .inl (cI40, 1200, .inl f041))]) (w1 := []) hP hD [7] [0, 1, 2, 3, 4, 5, 6, 8] rfl rfl (by decide) (by decide) hk1 hFc hP1 hD1
  have hK := (hK.sub (tys' := [(cA20, .byte), (cI40, .int)]) [0, 1] rfl).app hK1
  generalize H1 = H at hP hS ⊢
  have hP : va_P (dC, dI) vwCl [(a13, .inr (0, [.ref ya8, .int 0])), (ya8, .inl (cA20, 1200, .inl f021)), (a24, .inr (3, [.ref b29, .ref t110, .ref t211, .ref t312, .int 0])), (b29, .inr (0, [.ref yb13, .int 0])), (a35, .inr (1, [.ref h114, .ref h215, .ref h316, .int 0, .int 0, .int 0])), (a57, .inr (5, [.ref h417, .ref b518, .int 0])), (b518, .inr (0, [.ref yc19, .int 0])), (m124, .inl (cI40, 1200, .inl f041))] H := hP
  have hD : va_D (fun q : Nat => s.heap.size ≤ q) [(a13, .inr (0, [.ref ya8, .int 0])), (ya8, .inl (cA20, 1200, .inl f021)), (a24, .inr (3, [.ref b29, .ref t110, .ref t211, .ref t312, .int 0])), (b29, .inr (0, [.ref yb13, .int 0])), (a35, .inr (1, [.ref h114, .ref h215, .ref h316, .int 0, .int 0, .int 0])), (a57, .inr (5, [.ref h417, .ref b518, .int 0])), (b518, .inr (0, [.ref yc19, .int 0])), (m124, .inl (cI40, 1200, .inl f041))] := hD
  have hK : va_K (dC, dI) vwCl [(cA20, .byte), (cI40, .int)] s := hK
  have hw : r2 = (-4) := hw
  subst hw
  refine lv_icmp_eq (tgt := 600) hx hb dL_law_503 (by decide) (fun c_503 => ?_) (fun c_503 => absurd (rfl) c_503)
  exact law_end C0 hS (lv_sub hl [3, 0] rfl)

set_option maxHeartbeats 4000000 in
set_option maxRecDepth 100000 in
theorem law_byteOf {p : Program} {l : Launch} {e : Env} {s : State} {m : MethodId} {below : List Frame} {meth : Method} {c : Code} {b : Nat} {xs : Nat → Int32} (C0 : lw_At p s m meth c b 4 xs) {dC : Nat → ClassId} {dI : Nat → Nat → Nat} {q1 a13 a24 a35 a46 a57 ya8 b29 t110 t211 t312 yb13 h114 h215 h316 h417 b518 yc19 q22 m124 m225 m326 m427 m528 m629 m730 m831 m932 m1033 m1134 m1235 m1336 m1437 m1538 m1639 : Nat} {cA20 cI40 : ClassId} {f021 f041 : Nat → Int32} {H : Heap} {locs : List Loc} (hK : va_K (dC, dI) vwCl [(cA20, .byte), (cI40, .int)] s) (hP : va_P (dC, dI) vwCl [(q1, .inr (6, [.ref a13, .ref a24, .ref a35, .ref a46, .ref a57, .int (-1), .int 0])), (a13, .inr (0, [.ref ya8, .int 0])), (ya8, .inl (cA20, 1200, .inl f021)), (a24, .inr (3, [.ref b29, .ref t110, .ref t211, .ref t312, .int 0])), (b29, .inr (0, [.ref yb13, .int 0])), (a35, .inr (1, [.ref h114, .ref h215, .ref h316, .int 0, .int 0, .int 0])), (a57, .inr (5, [.ref h417, .ref b518, .int 0])), (b518, .inr (0, [.ref yc19, .int 0])), (q22, .inr (7, [.int 0, .ref m124, .int 0, .int (-1), .int 0, .int 0, .int 0, .ref m225, .int 0, .int 0, .ref m326, .ref m427, .ref m528, .ref m629, .ref m730, .ref m831, .ref m932, .int 0, .ref m1033, .ref m1134, .ref m1235, .int 0, .ref m1336, .ref m1437, .ref m1538, .int 0, .ref m1639, .int 0, .int 0])), (m124, .inl (cI40, 1200, .inl f041))] H) (hD : va_D (fun q : Nat => s.heap.size ≤ q) [(q1, .inr (6, [.ref a13, .ref a24, .ref a35, .ref a46, .ref a57, .int (-1), .int 0])), (a13, .inr (0, [.ref ya8, .int 0])), (ya8, .inl (cA20, 1200, .inl f021)), (a24, .inr (3, [.ref b29, .ref t110, .ref t211, .ref t312, .int 0])), (b29, .inr (0, [.ref yb13, .int 0])), (a35, .inr (1, [.ref h114, .ref h215, .ref h316, .int 0, .int 0, .int 0])), (a57, .inr (5, [.ref h417, .ref b518, .int 0])), (b518, .inr (0, [.ref yc19, .int 0])), (q22, .inr (7, [.int 0, .ref m124, .int 0, .int (-1), .int 0, .int 0, .int 0, .ref m225, .int 0, .int 0, .ref m326, .ref m427, .ref m528, .ref m629, .ref m730, .ref m831, .ref m932, .int 0, .ref m1033, .ref m1134, .ref m1235, .int 0, .ref m1336, .ref m1437, .ref m1538, .int 0, .ref m1639, .int 0, .int 0])), (m124, .inl (cI40, 1200, .inl f041))]) (hS : va_S (fun q : Nat => s.heap.size ≤ q) s.heap H locs) {ls : Array Slot} (hl : lv_has ls 4 [(3, .int 0), (2, .ref q22), (1, .ref q1), (0, .ref b)]) : W p l e room_1 s m #[Value.ref b] below meth c H locs 40 14459 (lw_Z below #[Value.ref b] s) (F0 m 508 ls []) := by
  obtain ⟨hx, hb, hr, hml, hown0, hts0, hX, hbl, hlocks, hgv⟩ := id C0
  have hown : s.vm.findClass RL = some m.cls := hown0
  have hts : ∀ w ∈ pwAll, w.before #[Value.ref b] s = true := fun w h => hts0 w (pwAll_in w h)
  have hA : ∀ q : Nat, s.heap.size ≤ q → (fun q : Nat => s.heap.size ≤ q) q := fun _ h => h
  have hbA : ¬ (fun q : Nat => s.heap.size ≤ q) b := Nat.not_le.mpr hbl
  refine lv_aload_n hx hb dL_law_508 rfl (lv_at hl 2 rfl) ?_
  refine lv_aload_n hx hb dL_law_509 rfl (lv_at hl 3 rfl) ?_
  refine lv_iload_n hx hb dL_law_510 rfl (lv_at hl 0 rfl) ?_
  refine lv_iconst (v := 1) hx hb dL_law_511 (by decide) ?_
  refine lv_iadd hx hb dL_law_512 ?_
  refine pf_top (y := 1) (by decide) ?_
  refine va_sld hx hb hX hbl hbA hS pf_i1 dL_law_513 ?_
  refine lv_aload_n hx hb dL_law_514 rfl (lv_at hl 3 rfl) ?_
  refine lv_iload_n hx hb dL_law_515 rfl (lv_at hl 0 rfl) ?_
  refine lv_iconst (v := 2) hx hb dL_law_516 (by decide) ?_
  refine lv_iadd hx hb dL_law_517 ?_
  refine pf_top (y := 2) (by decide) ?_
  refine va_sld hx hb hX hbl hbA hS pf_i2 dL_law_518 ?_
  refine lv_aload_n hx hb dL_law_519 rfl (lv_at hl 3 rfl) ?_
  refine lv_iload_n hx hb dL_law_520 rfl (lv_at hl 0 rfl) ?_
  refine lv_iconst (v := 3) hx hb dL_law_521 (by decide) ?_
  refine lv_iadd hx hb dL_law_522 ?_
  refine pf_top (y := 3) (by decide) ?_
  refine va_sld hx hb hX hbl hbA hS pf_i3 dL_law_523 ?_
  have hPc := hP.sub (ws' := [(q1, .inr (6, [.ref a13, .ref a24, .ref a35, .ref a46, .ref a57, .int (-1), .int 0]))]) [0] rfl
  have hDc := hD.sub (ws' := [(q1, .inr (6, [.ref a13, .ref a24, .ref a35, .ref a46, .ref a57, .int (-1), .int 0]))]) [0] (by decide) rfl
  have hKc := hK.sub (tys' := []) [] rfl
  have hFc := va_free (wc := [(q1, .inr (6, [.ref a13, .ref a24, .ref a35, .ref a46, .ref a57, .int (-1), .int 0]))]) hD hS hA [0] rfl
  refine va_calli (va_runV (As := [.int (xs (1 : Int32).toNatClampNeg), .int (xs (2 : Int32).toNatClampNeg), .int (xs (3 : Int32).toNatClampNeg)]) (rest := []) ⟨hx, hb, hml, hown, hts⟩ (c_X6_byteOf l dC dI H.size q1 a13 a24 a35 a46 a57 (xs (1 : Int32).toNatClampNeg) (xs (2 : Int32).toNatClampNeg) (xs (3 : Int32).toNatClampNeg)) (cwV 3 hts gg_RL_68 rfl rfl rfl (by decide +kernel) ⟨Nat.le_of_ble_eq_true rfl, Nat.le_of_ble_eq_true rfl⟩) ⟨fun a U g mk q => by obtain ⟨q0, q1, qP, qK, qD⟩ := q; exact ⟨q0, q1, qP, va_K.moved (u := U) (U := U.calling g mk a) (Vm.Alike.refl U.vm) qK, qD⟩, va_recv hK hP (ci := 6) (q0 := 0) rfl rfl, fun U hU hW => ⟨rfl, by rw [hU], by rw [hU]; exact hPc, va_K.moved hW.alike hKc, hDc.weaken (fun _ _ _ _ => trivial)⟩⟩ rfl rfl hl.1 rfl (lv_room (Nat.le_of_ble_eq_true rfl)) dL_law_524 ⟨Nat.le_of_ble_eq_true rfl, Nat.le_of_ble_eq_true rfl⟩) hS (fun q _ h => hFc q h) hFc (fun r1 u t H1 locs ht hvm hw hB hz1 hk1 hS => ?_)
  obtain ⟨hP1, hK1, hD1⟩ := hB
  rw [ht] at hP1
  have hK1 := va_K.moved hvm.symm hK1
  obtain ⟨hP, hD⟩ := va_join (wr := [(a13, .inr (0, [.ref ya8, .int 0])), (ya8, .inl (cA20, 1200, .inl f021)), (a24, .inr (3, [.ref b29, .ref t110, .ref t211, .ref t312, .int 0])), (b29, .inr (0, [.ref yb13, .int 0])), (a35, .inr (1, [.ref h114, .ref h215, .ref h316, .int 0, .int 0, .int 0])), (a57, .inr (5, [.ref h417, .ref b518, .int 0])), (b518, .inr (0, [.ref yc19, .int 0])), (q22, .inr (7, [.int 0, .ref m124, .int 0, .int (-1), .int 0, .int 0, .int 0, .ref m225, .int 0, .int 0, .ref m326, .ref m427, .ref m528, .ref m629, .ref m730, .ref m831, .ref m932, .int 0, .ref m1033, .ref m1134, .ref m1235, .int 0, .ref m1336, .ref m1437, .ref m1538, .int 0, .ref m1639, .int 0, .int 0])), (m124, .inl (cI40, 1200, .inl f041))]) (w1 := []) hP hD [0] [1, 2, 3, 4, 5, 6, 7, 8, 9] rfl rfl (by decide) (by decide) hk1 hFc hP1 hD1
  have hK := (hK.sub (tys' := [(cA20, .byte), (cI40, .int)]) [0, 1] rfl).app hK1
  generalize H1 = H at hP hS ⊢
  have hP : va_P (dC, dI) vwCl [(a13, .inr (0, [.ref ya8, .int 0])), (ya8, .inl (cA20, 1200, .inl f021)), (a24, .inr (3, [.ref b29, .ref t110, .ref t211, .ref t312, .int 0])), (b29, .inr (0, [.ref yb13, .int 0])), (a35, .inr (1, [.ref h114, .ref h215, .ref h316, .int 0, .int 0, .int 0])), (a57, .inr (5, [.ref h417, .ref b518, .int 0])), (b518, .inr (0, [.ref yc19, .int 0])), (q22, .inr (7, [.int 0, .ref m124, .int 0, .int (-1), .int 0, .int 0, .int 0, .ref m225, .int 0, .int 0, .ref m326, .ref m427, .ref m528, .ref m629, .ref m730, .ref m831, .ref m932, .int 0, .ref m1033, .ref m1134, .ref m1235, .int 0, .ref m1336, .ref m1437, .ref m1538, .int 0, .ref m1639, .int 0, .int 0])), (m124, .inl (cI40, 1200, .inl f041))] H := hP
  have hD : va_D (fun q : Nat => s.heap.size ≤ q) [(a13, .inr (0, [.ref ya8, .int 0])), (ya8, .inl (cA20, 1200, .inl f021)), (a24, .inr (3, [.ref b29, .ref t110, .ref t211, .ref t312, .int 0])), (b29, .inr (0, [.ref yb13, .int 0])), (a35, .inr (1, [.ref h114, .ref h215, .ref h316, .int 0, .int 0, .int 0])), (a57, .inr (5, [.ref h417, .ref b518, .int 0])), (b518, .inr (0, [.ref yc19, .int 0])), (q22, .inr (7, [.int 0, .ref m124, .int 0, .int (-1), .int 0, .int 0, .int 0, .ref m225, .int 0, .int 0, .ref m326, .ref m427, .ref m528, .ref m629, .ref m730, .ref m831, .ref m932, .int 0, .ref m1033, .ref m1134, .ref m1235, .int 0, .ref m1336, .ref m1437, .ref m1538, .int 0, .ref m1639, .int 0, .int 0])), (m124, .inl (cI40, 1200, .inl f041))] := hD
  have hK : va_K (dC, dI) vwCl [(cA20, .byte), (cI40, .int)] s := hK
  have hw : r1 = (-4) := hw
  subst hw
  refine lv_aload_n hx hb dL_law_527 rfl (lv_at hl 1 rfl) ?_
  refine lv_aload_n hx hb dL_law_528 rfl (lv_at hl 3 rfl) ?_
  refine lv_iload_n hx hb dL_law_529 rfl (lv_at hl 0 rfl) ?_
  refine lv_iconst (v := 1) hx hb dL_law_530 (by decide) ?_
  refine lv_iadd hx hb dL_law_531 ?_
  refine pf_top (y := 1) (by decide) ?_
  refine va_sld hx hb hX hbl hbA hS pf_i1 dL_law_532 ?_
  refine lv_aload_n hx hb dL_law_533 rfl (lv_at hl 3 rfl) ?_
  refine lv_iload_n hx hb dL_law_534 rfl (lv_at hl 0 rfl) ?_
  refine lv_iconst (v := 2) hx hb dL_law_535 (by decide) ?_
  refine lv_iadd hx hb dL_law_536 ?_
  refine pf_top (y := 2) (by decide) ?_
  refine va_sld hx hb hX hbl hbA hS pf_i2 dL_law_537 ?_
  refine lv_aload_n hx hb dL_law_538 rfl (lv_at hl 3 rfl) ?_
  refine lv_iload_n hx hb dL_law_539 rfl (lv_at hl 0 rfl) ?_
  refine lv_iconst (v := 3) hx hb dL_law_540 (by decide) ?_
  refine lv_iadd hx hb dL_law_541 ?_
  refine pf_top (y := 3) (by decide) ?_
  refine va_sld hx hb hX hbl hbA hS pf_i3 dL_law_542 ?_
  have hPc := hP.sub (ws' := [(q22, .inr (7, [.int 0, .ref m124, .int 0, .int (-1), .int 0, .int 0, .int 0, .ref m225, .int 0, .int 0, .ref m326, .ref m427, .ref m528, .ref m629, .ref m730, .ref m831, .ref m932, .int 0, .ref m1033, .ref m1134, .ref m1235, .int 0, .ref m1336, .ref m1437, .ref m1538, .int 0, .ref m1639, .int 0, .int 0]))]) [7] rfl
  have hDc := hD.sub (ws' := [(q22, .inr (7, [.int 0, .ref m124, .int 0, .int (-1), .int 0, .int 0, .int 0, .ref m225, .int 0, .int 0, .ref m326, .ref m427, .ref m528, .ref m629, .ref m730, .ref m831, .ref m932, .int 0, .ref m1033, .ref m1134, .ref m1235, .int 0, .ref m1336, .ref m1437, .ref m1538, .int 0, .ref m1639, .int 0, .int 0]))]) [7] (by decide) rfl
  have hKc := hK.sub (tys' := []) [] rfl
  have hFc := va_free (wc := [(q22, .inr (7, [.int 0, .ref m124, .int 0, .int (-1), .int 0, .int 0, .int 0, .ref m225, .int 0, .int 0, .ref m326, .ref m427, .ref m528, .ref m629, .ref m730, .ref m831, .ref m932, .int 0, .ref m1033, .ref m1134, .ref m1235, .int 0, .ref m1336, .ref m1437, .ref m1538, .int 0, .ref m1639, .int 0, .int 0]))]) hD hS hA [7] rfl
  refine va_calli (va_runV (As := [.int (xs (1 : Int32).toNatClampNeg), .int (xs (2 : Int32).toNatClampNeg), .int (xs (3 : Int32).toNatClampNeg)]) (rest := [.int (-4)]) ⟨hx, hb, hml, hown, hts⟩ (c_X7_byteOf l dC dI H.size q22 m124 m225 m326 m427 m528 m629 m730 m831 m932 m1033 m1134 m1235 m1336 m1437 m1538 m1639 (xs (1 : Int32).toNatClampNeg) (xs (2 : Int32).toNatClampNeg) (xs (3 : Int32).toNatClampNeg)) (cwV 3 hts gg_RL_71 rfl rfl rfl (by decide +kernel) ⟨Nat.le_of_ble_eq_true rfl, Nat.le_of_ble_eq_true rfl⟩) ⟨fun a U g mk q => by obtain ⟨q0, q1, qP, qK, qD⟩ := q; exact ⟨q0, q1, qP, va_K.moved (u := U) (U := U.calling g mk a) (Vm.Alike.refl U.vm) qK, qD⟩, va_recv hK hP (ci := 7) (q0 := 7) rfl rfl, fun U hU hW => ⟨rfl, by rw [hU], by rw [hU]; exact hPc, va_K.moved hW.alike hKc, hDc.weaken (fun _ _ _ _ => trivial)⟩⟩ rfl rfl hl.1 rfl (lv_room (Nat.le_of_ble_eq_true rfl)) dL_law_543 ⟨Nat.le_of_ble_eq_true rfl, Nat.le_of_ble_eq_true rfl⟩) hS (fun q _ h => hFc q h) hFc (fun r2 u t H1 locs ht hvm hw hB hz1 hk1 hS => ?_)
  obtain ⟨hP1, hK1, hD1⟩ := hB
  rw [ht] at hP1
  have hK1 := va_K.moved hvm.symm hK1
  obtain ⟨hP, hD⟩ := va_join (wr := [(a13, .inr (0, [.ref ya8, .int 0])), (ya8, .inl (cA20, 1200, .inl f021)), (a24, .inr (3, [.ref b29, .ref t110, .ref t211, .ref t312, .int 0])), (b29, .inr (0, [.ref yb13, .int 0])), (a35, .inr (1, [.ref h114, .ref h215, .ref h316, .int 0, .int 0, .int 0])), (a57, .inr (5, [.ref h417, .ref b518, .int 0])), (b518, .inr (0, [.ref yc19, .int 0])), (m124, .inl (cI40, 1200, .inl f041))]) (w1 := []) hP hD [7] [0, 1, 2, 3, 4, 5, 6, 8] rfl rfl (by decide) (by decide) hk1 hFc hP1 hD1
  have hK := (hK.sub (tys' := [(cA20, .byte), (cI40, .int)]) [0, 1] rfl).app hK1
  generalize H1 = H at hP hS ⊢
  have hP : va_P (dC, dI) vwCl [(a13, .inr (0, [.ref ya8, .int 0])), (ya8, .inl (cA20, 1200, .inl f021)), (a24, .inr (3, [.ref b29, .ref t110, .ref t211, .ref t312, .int 0])), (b29, .inr (0, [.ref yb13, .int 0])), (a35, .inr (1, [.ref h114, .ref h215, .ref h316, .int 0, .int 0, .int 0])), (a57, .inr (5, [.ref h417, .ref b518, .int 0])), (b518, .inr (0, [.ref yc19, .int 0])), (m124, .inl (cI40, 1200, .inl f041))] H := hP
  have hD : va_D (fun q : Nat => s.heap.size ≤ q) [(a13, .inr (0, [.ref ya8, .int 0])), (ya8, .inl (cA20, 1200, .inl f021)), (a24, .inr (3, [.ref b29, .ref t110, .ref t211, .ref t312, .int 0])), (b29, .inr (0, [.ref yb13, .int 0])), (a35, .inr (1, [.ref h114, .ref h215, .ref h316, .int 0, .int 0, .int 0])), (a57, .inr (5, [.ref h417, .ref b518, .int 0])), (b518, .inr (0, [.ref yc19, .int 0])), (m124, .inl (cI40, 1200, .inl f041))] := hD
  have hK : va_K (dC, dI) vwCl [(cA20, .byte), (cI40, .int)] s := hK
  have hw : r2 = (-4) := hw
  subst hw
  refine lv_icmp_eq (tgt := 600) hx hb dL_law_546 (by decide) (fun c_546 => ?_) (fun c_546 => absurd (rfl) c_546)
  exact law_end C0 hS (lv_sub hl [3, 0] rfl)

set_option maxHeartbeats 4000000 in
set_option maxRecDepth 100000 in
theorem law_answer {p : Program} {l : Launch} {e : Env} {s : State} {m : MethodId} {below : List Frame} {meth : Method} {c : Code} {b : Nat} {xs : Nat → Int32} (C0 : lw_At p s m meth c b 4 xs) {dC : Nat → ClassId} {dI : Nat → Nat → Nat} {q1 a13 a24 a35 a46 a57 ya8 b29 t110 t211 t312 yb13 h114 h215 h316 h417 b518 yc19 q22 m124 m225 m326 m427 m528 m629 m730 m831 m932 m1033 m1134 m1235 m1336 m1437 m1538 m1639 : Nat} {cA20 cI40 : ClassId} {f021 f041 : Nat → Int32} {H : Heap} {locs : List Loc} (hK : va_K (dC, dI) vwCl [(cA20, .byte), (cI40, .int)] s) (hP : va_P (dC, dI) vwCl [(q1, .inr (6, [.ref a13, .ref a24, .ref a35, .ref a46, .ref a57, .int (-1), .int 0])), (a13, .inr (0, [.ref ya8, .int 0])), (ya8, .inl (cA20, 1200, .inl f021)), (a24, .inr (3, [.ref b29, .ref t110, .ref t211, .ref t312, .int 0])), (b29, .inr (0, [.ref yb13, .int 0])), (a35, .inr (1, [.ref h114, .ref h215, .ref h316, .int 0, .int 0, .int 0])), (a57, .inr (5, [.ref h417, .ref b518, .int 0])), (b518, .inr (0, [.ref yc19, .int 0])), (q22, .inr (7, [.int 0, .ref m124, .int 0, .int (-1), .int 0, .int 0, .int 0, .ref m225, .int 0, .int 0, .ref m326, .ref m427, .ref m528, .ref m629, .ref m730, .ref m831, .ref m932, .int 0, .ref m1033, .ref m1134, .ref m1235, .int 0, .ref m1336, .ref m1437, .ref m1538, .int 0, .ref m1639, .int 0, .int 0])), (m124, .inl (cI40, 1200, .inl f041))] H) (hD : va_D (fun q : Nat => s.heap.size ≤ q) [(q1, .inr (6, [.ref a13, .ref a24, .ref a35, .ref a46, .ref a57, .int (-1), .int 0])), (a13, .inr (0, [.ref ya8, .int 0])), (ya8, .inl (cA20, 1200, .inl f021)), (a24, .inr (3, [.ref b29, .ref t110, .ref t211, .ref t312, .int 0])), (b29, .inr (0, [.ref yb13, .int 0])), (a35, .inr (1, [.ref h114, .ref h215, .ref h316, .int 0, .int 0, .int 0])), (a57, .inr (5, [.ref h417, .ref b518, .int 0])), (b518, .inr (0, [.ref yc19, .int 0])), (q22, .inr (7, [.int 0, .ref m124, .int 0, .int (-1), .int 0, .int 0, .int 0, .ref m225, .int 0, .int 0, .ref m326, .ref m427, .ref m528, .ref m629, .ref m730, .ref m831, .ref m932, .int 0, .ref m1033, .ref m1134, .ref m1235, .int 0, .ref m1336, .ref m1437, .ref m1538, .int 0, .ref m1639, .int 0, .int 0])), (m124, .inl (cI40, 1200, .inl f041))]) (hS : va_S (fun q : Nat => s.heap.size ≤ q) s.heap H locs) {ls : Array Slot} (hl : lv_has ls 4 [(3, .int 0), (2, .ref q22), (1, .ref q1), (0, .ref b)]) : W p l e room_1 s m #[Value.ref b] below meth c H locs 40 14459 (lw_Z below #[Value.ref b] s) (F0 m 551 ls []) := by
  obtain ⟨hx, hb, hr, hml, hown0, hts0, hX, hbl, hlocks, hgv⟩ := id C0
  have hown : s.vm.findClass RL = some m.cls := hown0
  have hts : ∀ w ∈ pwAll, w.before #[Value.ref b] s = true := fun w h => hts0 w (pwAll_in w h)
  have hA : ∀ q : Nat, s.heap.size ≤ q → (fun q : Nat => s.heap.size ≤ q) q := fun _ h => h
  have hbA : ¬ (fun q : Nat => s.heap.size ≤ q) b := Nat.not_le.mpr hbl
  refine lv_aload_n hx hb dL_law_551 rfl (lv_at hl 2 rfl) ?_
  have hPc := hP.sub (ws' := [(q1, .inr (6, [.ref a13, .ref a24, .ref a35, .ref a46, .ref a57, .int (-1), .int 0]))]) [0] rfl
  have hDc := hD.sub (ws' := [(q1, .inr (6, [.ref a13, .ref a24, .ref a35, .ref a46, .ref a57, .int (-1), .int 0]))]) [0] (by decide) rfl
  have hKc := hK.sub (tys' := []) [] rfl
  have hFc := va_free (wc := [(q1, .inr (6, [.ref a13, .ref a24, .ref a35, .ref a46, .ref a57, .int (-1), .int 0]))]) hD hS hA [0] rfl
  refine va_calli (va_runV (As := []) (rest := []) ⟨hx, hb, hml, hown, hts⟩ (c_X6_answer l dC dI H.size q1 a13 a24 a35 a46 a57) (cwV 0 hts gg_RL_72 rfl rfl rfl (by decide +kernel) ⟨Nat.le_of_ble_eq_true rfl, Nat.le_of_ble_eq_true rfl⟩) ⟨fun a U g mk q => by obtain ⟨q0, q1, qP, qK, qD⟩ := q; exact ⟨q0, q1, qP, va_K.moved (u := U) (U := U.calling g mk a) (Vm.Alike.refl U.vm) qK, qD⟩, va_recv hK hP (ci := 6) (q0 := 0) rfl rfl, fun U hU hW => ⟨rfl, by rw [hU], by rw [hU]; exact hPc, va_K.moved hW.alike hKc, hDc.weaken (fun _ _ _ _ => trivial)⟩⟩ rfl rfl hl.1 rfl (lv_room (Nat.le_of_ble_eq_true rfl)) dL_law_552 ⟨Nat.le_of_ble_eq_true rfl, Nat.le_of_ble_eq_true rfl⟩) hS (fun q _ h => hFc q h) hFc (fun r1 u t H1 locs ht hvm hw hB hz1 hk1 hS => ?_)
  obtain ⟨hP1, hK1, hD1⟩ := hB
  rw [ht] at hP1
  have hK1 := va_K.moved hvm.symm hK1
  obtain ⟨hP, hD⟩ := va_join (wr := [(a13, .inr (0, [.ref ya8, .int 0])), (ya8, .inl (cA20, 1200, .inl f021)), (a24, .inr (3, [.ref b29, .ref t110, .ref t211, .ref t312, .int 0])), (b29, .inr (0, [.ref yb13, .int 0])), (a35, .inr (1, [.ref h114, .ref h215, .ref h316, .int 0, .int 0, .int 0])), (a57, .inr (5, [.ref h417, .ref b518, .int 0])), (b518, .inr (0, [.ref yc19, .int 0])), (q22, .inr (7, [.int 0, .ref m124, .int 0, .int (-1), .int 0, .int 0, .int 0, .ref m225, .int 0, .int 0, .ref m326, .ref m427, .ref m528, .ref m629, .ref m730, .ref m831, .ref m932, .int 0, .ref m1033, .ref m1134, .ref m1235, .int 0, .ref m1336, .ref m1437, .ref m1538, .int 0, .ref m1639, .int 0, .int 0])), (m124, .inl (cI40, 1200, .inl f041))]) (w1 := []) hP hD [0] [1, 2, 3, 4, 5, 6, 7, 8, 9] rfl rfl (by decide) (by decide) hk1 hFc hP1 hD1
  have hK := (hK.sub (tys' := [(cA20, .byte), (cI40, .int)]) [0, 1] rfl).app hK1
  generalize H1 = H at hP hS ⊢
  have hP : va_P (dC, dI) vwCl [(a13, .inr (0, [.ref ya8, .int 0])), (ya8, .inl (cA20, 1200, .inl f021)), (a24, .inr (3, [.ref b29, .ref t110, .ref t211, .ref t312, .int 0])), (b29, .inr (0, [.ref yb13, .int 0])), (a35, .inr (1, [.ref h114, .ref h215, .ref h316, .int 0, .int 0, .int 0])), (a57, .inr (5, [.ref h417, .ref b518, .int 0])), (b518, .inr (0, [.ref yc19, .int 0])), (q22, .inr (7, [.int 0, .ref m124, .int 0, .int (-1), .int 0, .int 0, .int 0, .ref m225, .int 0, .int 0, .ref m326, .ref m427, .ref m528, .ref m629, .ref m730, .ref m831, .ref m932, .int 0, .ref m1033, .ref m1134, .ref m1235, .int 0, .ref m1336, .ref m1437, .ref m1538, .int 0, .ref m1639, .int 0, .int 0])), (m124, .inl (cI40, 1200, .inl f041))] H := hP
  have hD : va_D (fun q : Nat => s.heap.size ≤ q) [(a13, .inr (0, [.ref ya8, .int 0])), (ya8, .inl (cA20, 1200, .inl f021)), (a24, .inr (3, [.ref b29, .ref t110, .ref t211, .ref t312, .int 0])), (b29, .inr (0, [.ref yb13, .int 0])), (a35, .inr (1, [.ref h114, .ref h215, .ref h316, .int 0, .int 0, .int 0])), (a57, .inr (5, [.ref h417, .ref b518, .int 0])), (b518, .inr (0, [.ref yc19, .int 0])), (q22, .inr (7, [.int 0, .ref m124, .int 0, .int (-1), .int 0, .int 0, .int 0, .ref m225, .int 0, .int 0, .ref m326, .ref m427, .ref m528, .ref m629, .ref m730, .ref m831, .ref m932, .int 0, .ref m1033, .ref m1134, .ref m1235, .int 0, .ref m1336, .ref m1437, .ref m1538, .int 0, .ref m1639, .int 0, .int 0])), (m124, .inl (cI40, 1200, .inl f041))] := hD
  have hK : va_K (dC, dI) vwCl [(cA20, .byte), (cI40, .int)] s := hK
  have hw : r1 = (-4) := hw
  subst hw
  refine lv_aload_n hx hb dL_law_555 rfl (lv_at hl 1 rfl) ?_
  have hPc := hP.sub (ws' := [(q22, .inr (7, [.int 0, .ref m124, .int 0, .int (-1), .int 0, .int 0, .int 0, .ref m225, .int 0, .int 0, .ref m326, .ref m427, .ref m528, .ref m629, .ref m730, .ref m831, .ref m932, .int 0, .ref m1033, .ref m1134, .ref m1235, .int 0, .ref m1336, .ref m1437, .ref m1538, .int 0, .ref m1639, .int 0, .int 0]))]) [7] rfl
  have hDc := hD.sub (ws' := [(q22, .inr (7, [.int 0, .ref m124, .int 0, .int (-1), .int 0, .int 0, .int 0, .ref m225, .int 0, .int 0, .ref m326, .ref m427, .ref m528, .ref m629, .ref m730, .ref m831, .ref m932, .int 0, .ref m1033, .ref m1134, .ref m1235, .int 0, .ref m1336, .ref m1437, .ref m1538, .int 0, .ref m1639, .int 0, .int 0]))]) [7] (by decide) rfl
  have hKc := hK.sub (tys' := []) [] rfl
  have hFc := va_free (wc := [(q22, .inr (7, [.int 0, .ref m124, .int 0, .int (-1), .int 0, .int 0, .int 0, .ref m225, .int 0, .int 0, .ref m326, .ref m427, .ref m528, .ref m629, .ref m730, .ref m831, .ref m932, .int 0, .ref m1033, .ref m1134, .ref m1235, .int 0, .ref m1336, .ref m1437, .ref m1538, .int 0, .ref m1639, .int 0, .int 0]))]) hD hS hA [7] rfl
  refine va_calli (va_runV (As := []) (rest := [.int (-4)]) ⟨hx, hb, hml, hown, hts⟩ (c_X7_answer l dC dI H.size q22 m124 m225 m326 m427 m528 m629 m730 m831 m932 m1033 m1134 m1235 m1336 m1437 m1538 m1639) (cwV 0 hts gg_RL_75 rfl rfl rfl (by decide +kernel) ⟨Nat.le_of_ble_eq_true rfl, Nat.le_of_ble_eq_true rfl⟩) ⟨fun a U g mk q => by obtain ⟨q0, q1, qP, qK, qD⟩ := q; exact ⟨q0, q1, qP, va_K.moved (u := U) (U := U.calling g mk a) (Vm.Alike.refl U.vm) qK, qD⟩, va_recv hK hP (ci := 7) (q0 := 7) rfl rfl, fun U hU hW => ⟨rfl, by rw [hU], by rw [hU]; exact hPc, va_K.moved hW.alike hKc, hDc.weaken (fun _ _ _ _ => trivial)⟩⟩ rfl rfl hl.1 rfl (lv_room (Nat.le_of_ble_eq_true rfl)) dL_law_556 ⟨Nat.le_of_ble_eq_true rfl, Nat.le_of_ble_eq_true rfl⟩) hS (fun q _ h => hFc q h) hFc (fun r2 u t H1 locs ht hvm hw hB hz1 hk1 hS => ?_)
  obtain ⟨hP1, hK1, hD1⟩ := hB
  rw [ht] at hP1
  have hK1 := va_K.moved hvm.symm hK1
  obtain ⟨hP, hD⟩ := va_join (wr := [(a13, .inr (0, [.ref ya8, .int 0])), (ya8, .inl (cA20, 1200, .inl f021)), (a24, .inr (3, [.ref b29, .ref t110, .ref t211, .ref t312, .int 0])), (b29, .inr (0, [.ref yb13, .int 0])), (a35, .inr (1, [.ref h114, .ref h215, .ref h316, .int 0, .int 0, .int 0])), (a57, .inr (5, [.ref h417, .ref b518, .int 0])), (b518, .inr (0, [.ref yc19, .int 0])), (m124, .inl (cI40, 1200, .inl f041))]) (w1 := []) hP hD [7] [0, 1, 2, 3, 4, 5, 6, 8] rfl rfl (by decide) (by decide) hk1 hFc hP1 hD1
  have hK := (hK.sub (tys' := [(cA20, .byte), (cI40, .int)]) [0, 1] rfl).app hK1
  generalize H1 = H at hP hS ⊢
  have hP : va_P (dC, dI) vwCl [(a13, .inr (0, [.ref ya8, .int 0])), (ya8, .inl (cA20, 1200, .inl f021)), (a24, .inr (3, [.ref b29, .ref t110, .ref t211, .ref t312, .int 0])), (b29, .inr (0, [.ref yb13, .int 0])), (a35, .inr (1, [.ref h114, .ref h215, .ref h316, .int 0, .int 0, .int 0])), (a57, .inr (5, [.ref h417, .ref b518, .int 0])), (b518, .inr (0, [.ref yc19, .int 0])), (m124, .inl (cI40, 1200, .inl f041))] H := hP
  have hD : va_D (fun q : Nat => s.heap.size ≤ q) [(a13, .inr (0, [.ref ya8, .int 0])), (ya8, .inl (cA20, 1200, .inl f021)), (a24, .inr (3, [.ref b29, .ref t110, .ref t211, .ref t312, .int 0])), (b29, .inr (0, [.ref yb13, .int 0])), (a35, .inr (1, [.ref h114, .ref h215, .ref h316, .int 0, .int 0, .int 0])), (a57, .inr (5, [.ref h417, .ref b518, .int 0])), (b518, .inr (0, [.ref yc19, .int 0])), (m124, .inl (cI40, 1200, .inl f041))] := hD
  have hK : va_K (dC, dI) vwCl [(cA20, .byte), (cI40, .int)] s := hK
  have hw : r2 = (-4) := hw
  subst hw
  refine lv_icmp_eq (tgt := 600) hx hb dL_law_559 (by decide) (fun c_559 => ?_) (fun c_559 => absurd (rfl) c_559)
  exact law_end C0 hS (lv_sub hl [3, 0] rfl)

set_option maxHeartbeats 4000000 in
set_option maxRecDepth 100000 in
theorem law_answered {p : Program} {l : Launch} {e : Env} {s : State} {m : MethodId} {below : List Frame} {meth : Method} {c : Code} {b : Nat} {xs : Nat → Int32} (C0 : lw_At p s m meth c b 4 xs) {dC : Nat → ClassId} {dI : Nat → Nat → Nat} {q1 a13 a24 a35 a46 a57 ya8 b29 t110 t211 t312 yb13 h114 h215 h316 h417 b518 yc19 q22 m124 m225 m326 m427 m528 m629 m730 m831 m932 m1033 m1134 m1235 m1336 m1437 m1538 m1639 : Nat} {cA20 cI40 : ClassId} {f021 f041 : Nat → Int32} {H : Heap} {locs : List Loc} (hK : va_K (dC, dI) vwCl [(cA20, .byte), (cI40, .int)] s) (hP : va_P (dC, dI) vwCl [(q1, .inr (6, [.ref a13, .ref a24, .ref a35, .ref a46, .ref a57, .int (-1), .int 0])), (a13, .inr (0, [.ref ya8, .int 0])), (ya8, .inl (cA20, 1200, .inl f021)), (a24, .inr (3, [.ref b29, .ref t110, .ref t211, .ref t312, .int 0])), (b29, .inr (0, [.ref yb13, .int 0])), (a35, .inr (1, [.ref h114, .ref h215, .ref h316, .int 0, .int 0, .int 0])), (a57, .inr (5, [.ref h417, .ref b518, .int 0])), (b518, .inr (0, [.ref yc19, .int 0])), (q22, .inr (7, [.int 0, .ref m124, .int 0, .int (-1), .int 0, .int 0, .int 0, .ref m225, .int 0, .int 0, .ref m326, .ref m427, .ref m528, .ref m629, .ref m730, .ref m831, .ref m932, .int 0, .ref m1033, .ref m1134, .ref m1235, .int 0, .ref m1336, .ref m1437, .ref m1538, .int 0, .ref m1639, .int 0, .int 0])), (m124, .inl (cI40, 1200, .inl f041))] H) (hD : va_D (fun q : Nat => s.heap.size ≤ q) [(q1, .inr (6, [.ref a13, .ref a24, .ref a35, .ref a46, .ref a57, .int (-1), .int 0])), (a13, .inr (0, [.ref ya8, .int 0])), (ya8, .inl (cA20, 1200, .inl f021)), (a24, .inr (3, [.ref b29, .ref t110, .ref t211, .ref t312, .int 0])), (b29, .inr (0, [.ref yb13, .int 0])), (a35, .inr (1, [.ref h114, .ref h215, .ref h316, .int 0, .int 0, .int 0])), (a57, .inr (5, [.ref h417, .ref b518, .int 0])), (b518, .inr (0, [.ref yc19, .int 0])), (q22, .inr (7, [.int 0, .ref m124, .int 0, .int (-1), .int 0, .int 0, .int 0, .ref m225, .int 0, .int 0, .ref m326, .ref m427, .ref m528, .ref m629, .ref m730, .ref m831, .ref m932, .int 0, .ref m1033, .ref m1134, .ref m1235, .int 0, .ref m1336, .ref m1437, .ref m1538, .int 0, .ref m1639, .int 0, .int 0])), (m124, .inl (cI40, 1200, .inl f041))]) (hS : va_S (fun q : Nat => s.heap.size ≤ q) s.heap H locs) {ls : Array Slot} (hl : lv_has ls 4 [(3, .int 0), (2, .ref q22), (1, .ref q1), (0, .ref b)]) : W p l e room_1 s m #[Value.ref b] below meth c H locs 40 14459 (lw_Z below #[Value.ref b] s) (F0 m 564 ls []) := by
  obtain ⟨hx, hb, hr, hml, hown0, hts0, hX, hbl, hlocks, hgv⟩ := id C0
  have hown : s.vm.findClass RL = some m.cls := hown0
  have hts : ∀ w ∈ pwAll, w.before #[Value.ref b] s = true := fun w h => hts0 w (pwAll_in w h)
  have hA : ∀ q : Nat, s.heap.size ≤ q → (fun q : Nat => s.heap.size ≤ q) q := fun _ h => h
  have hbA : ¬ (fun q : Nat => s.heap.size ≤ q) b := Nat.not_le.mpr hbl
  refine lv_aload_n hx hb dL_law_564 rfl (lv_at hl 2 rfl) ?_
  refine lv_aload_n hx hb dL_law_565 rfl (lv_at hl 3 rfl) ?_
  refine lv_iload_n hx hb dL_law_566 rfl (lv_at hl 0 rfl) ?_
  refine lv_iconst (v := 1) hx hb dL_law_567 (by decide) ?_
  refine lv_iadd hx hb dL_law_568 ?_
  refine pf_top (y := 1) (by decide) ?_
  refine va_sld hx hb hX hbl hbA hS pf_i1 dL_law_569 ?_
  have hPc := hP.sub (ws' := [(q1, .inr (6, [.ref a13, .ref a24, .ref a35, .ref a46, .ref a57, .int (-1), .int 0])), (a57, .inr (5, [.ref h417, .ref b518, .int 0])), (b518, .inr (0, [.ref yc19, .int 0]))]) [0, 6, 7] rfl
  have hDc := hD.sub (ws' := [(q1, .inr (6, [.ref a13, .ref a24, .ref a35, .ref a46, .ref a57, .int (-1), .int 0])), (a57, .inr (5, [.ref h417, .ref b518, .int 0])), (b518, .inr (0, [.ref yc19, .int 0]))]) [0, 6, 7] (by decide) rfl
  have hKc := hK.sub (tys' := []) [] rfl
  have hFc := va_free (wc := [(q1, .inr (6, [.ref a13, .ref a24, .ref a35, .ref a46, .ref a57, .int (-1), .int 0])), (a57, .inr (5, [.ref h417, .ref b518, .int 0])), (b518, .inr (0, [.ref yc19, .int 0]))]) hD hS hA [0, 6, 7] rfl
  refine va_calli (va_runV (As := [.int (xs (1 : Int32).toNatClampNeg)]) (rest := []) ⟨hx, hb, hml, hown, hts⟩ (c_X6_answered l dC dI H.size q1 a13 a24 a35 a46 a57 h417 b518 yc19 (xs (1 : Int32).toNatClampNeg)) (cwV 1 hts gg_RL_76 rfl rfl rfl (by decide +kernel) ⟨Nat.le_of_ble_eq_true rfl, Nat.le_of_ble_eq_true rfl⟩) ⟨fun a U g mk q => by obtain ⟨q0, q1, qP, qK, qD⟩ := q; exact ⟨q0, q1, qP, va_K.moved (u := U) (U := U.calling g mk a) (Vm.Alike.refl U.vm) qK, qD⟩, va_recv hK hP (ci := 6) (q0 := 0) rfl rfl, fun U hU hW => ⟨rfl, by rw [hU], by rw [hU]; exact hPc, va_K.moved hW.alike hKc, hDc.weaken (fun _ _ _ _ => trivial)⟩⟩ rfl rfl hl.1 rfl (lv_room (Nat.le_of_ble_eq_true rfl)) dL_law_570 ⟨Nat.le_of_ble_eq_true rfl, Nat.le_of_ble_eq_true rfl⟩) hS (fun q _ h => hFc q h) hFc (fun r1 u t H1 locs ht hvm hw hB hz1 hk1 hS => ?_)
  obtain ⟨hP1, hK1, hD1⟩ := hB
  rw [ht] at hP1
  have hK1 := va_K.moved hvm.symm hK1
  obtain ⟨hP, hD⟩ := va_join (wr := [(a13, .inr (0, [.ref ya8, .int 0])), (ya8, .inl (cA20, 1200, .inl f021)), (a24, .inr (3, [.ref b29, .ref t110, .ref t211, .ref t312, .int 0])), (b29, .inr (0, [.ref yb13, .int 0])), (a35, .inr (1, [.ref h114, .ref h215, .ref h316, .int 0, .int 0, .int 0])), (q22, .inr (7, [.int 0, .ref m124, .int 0, .int (-1), .int 0, .int 0, .int 0, .ref m225, .int 0, .int 0, .ref m326, .ref m427, .ref m528, .ref m629, .ref m730, .ref m831, .ref m932, .int 0, .ref m1033, .ref m1134, .ref m1235, .int 0, .ref m1336, .ref m1437, .ref m1538, .int 0, .ref m1639, .int 0, .int 0])), (m124, .inl (cI40, 1200, .inl f041))]) (w1 := []) hP hD [0, 6, 7] [1, 2, 3, 4, 5, 8, 9] rfl rfl (by decide) (by decide) hk1 hFc hP1 hD1
  have hK := (hK.sub (tys' := [(cA20, .byte), (cI40, .int)]) [0, 1] rfl).app hK1
  generalize H1 = H at hP hS ⊢
  have hP : va_P (dC, dI) vwCl [(a13, .inr (0, [.ref ya8, .int 0])), (ya8, .inl (cA20, 1200, .inl f021)), (a24, .inr (3, [.ref b29, .ref t110, .ref t211, .ref t312, .int 0])), (b29, .inr (0, [.ref yb13, .int 0])), (a35, .inr (1, [.ref h114, .ref h215, .ref h316, .int 0, .int 0, .int 0])), (q22, .inr (7, [.int 0, .ref m124, .int 0, .int (-1), .int 0, .int 0, .int 0, .ref m225, .int 0, .int 0, .ref m326, .ref m427, .ref m528, .ref m629, .ref m730, .ref m831, .ref m932, .int 0, .ref m1033, .ref m1134, .ref m1235, .int 0, .ref m1336, .ref m1437, .ref m1538, .int 0, .ref m1639, .int 0, .int 0])), (m124, .inl (cI40, 1200, .inl f041))] H := hP
  have hD : va_D (fun q : Nat => s.heap.size ≤ q) [(a13, .inr (0, [.ref ya8, .int 0])), (ya8, .inl (cA20, 1200, .inl f021)), (a24, .inr (3, [.ref b29, .ref t110, .ref t211, .ref t312, .int 0])), (b29, .inr (0, [.ref yb13, .int 0])), (a35, .inr (1, [.ref h114, .ref h215, .ref h316, .int 0, .int 0, .int 0])), (q22, .inr (7, [.int 0, .ref m124, .int 0, .int (-1), .int 0, .int 0, .int 0, .ref m225, .int 0, .int 0, .ref m326, .ref m427, .ref m528, .ref m629, .ref m730, .ref m831, .ref m932, .int 0, .ref m1033, .ref m1134, .ref m1235, .int 0, .ref m1336, .ref m1437, .ref m1538, .int 0, .ref m1639, .int 0, .int 0])), (m124, .inl (cI40, 1200, .inl f041))] := hD
  have hK : va_K (dC, dI) vwCl [(cA20, .byte), (cI40, .int)] s := hK
  have hw : r1 = (-2) := hw
  subst hw
  refine lv_aload_n hx hb dL_law_573 rfl (lv_at hl 1 rfl) ?_
  refine lv_aload_n hx hb dL_law_574 rfl (lv_at hl 3 rfl) ?_
  refine lv_iload_n hx hb dL_law_575 rfl (lv_at hl 0 rfl) ?_
  refine lv_iconst (v := 1) hx hb dL_law_576 (by decide) ?_
  refine lv_iadd hx hb dL_law_577 ?_
  refine pf_top (y := 1) (by decide) ?_
  refine va_sld hx hb hX hbl hbA hS pf_i1 dL_law_578 ?_
  have hPc := hP.sub (ws' := [(q22, .inr (7, [.int 0, .ref m124, .int 0, .int (-1), .int 0, .int 0, .int 0, .ref m225, .int 0, .int 0, .ref m326, .ref m427, .ref m528, .ref m629, .ref m730, .ref m831, .ref m932, .int 0, .ref m1033, .ref m1134, .ref m1235, .int 0, .ref m1336, .ref m1437, .ref m1538, .int 0, .ref m1639, .int 0, .int 0]))]) [5] rfl
  have hDc := hD.sub (ws' := [(q22, .inr (7, [.int 0, .ref m124, .int 0, .int (-1), .int 0, .int 0, .int 0, .ref m225, .int 0, .int 0, .ref m326, .ref m427, .ref m528, .ref m629, .ref m730, .ref m831, .ref m932, .int 0, .ref m1033, .ref m1134, .ref m1235, .int 0, .ref m1336, .ref m1437, .ref m1538, .int 0, .ref m1639, .int 0, .int 0]))]) [5] (by decide) rfl
  have hKc := hK.sub (tys' := []) [] rfl
  have hFc := va_free (wc := [(q22, .inr (7, [.int 0, .ref m124, .int 0, .int (-1), .int 0, .int 0, .int 0, .ref m225, .int 0, .int 0, .ref m326, .ref m427, .ref m528, .ref m629, .ref m730, .ref m831, .ref m932, .int 0, .ref m1033, .ref m1134, .ref m1235, .int 0, .ref m1336, .ref m1437, .ref m1538, .int 0, .ref m1639, .int 0, .int 0]))]) hD hS hA [5] rfl
  refine va_calli (va_runV (As := [.int (xs (1 : Int32).toNatClampNeg)]) (rest := [.int (-2)]) ⟨hx, hb, hml, hown, hts⟩ (c_X7_answered l dC dI H.size q22 m124 m225 m326 m427 m528 m629 m730 m831 m932 m1033 m1134 m1235 m1336 m1437 m1538 m1639 (xs (1 : Int32).toNatClampNeg)) (cwV 1 hts gg_RL_79 rfl rfl rfl (by decide +kernel) ⟨Nat.le_of_ble_eq_true rfl, Nat.le_of_ble_eq_true rfl⟩) ⟨fun a U g mk q => by obtain ⟨q0, q1, qP, qK, qD⟩ := q; exact ⟨q0, q1, qP, va_K.moved (u := U) (U := U.calling g mk a) (Vm.Alike.refl U.vm) qK, qD⟩, va_recv hK hP (ci := 7) (q0 := 5) rfl rfl, fun U hU hW => ⟨rfl, by rw [hU], by rw [hU]; exact hPc, va_K.moved hW.alike hKc, hDc.weaken (fun _ _ _ _ => trivial)⟩⟩ rfl rfl hl.1 rfl (lv_room (Nat.le_of_ble_eq_true rfl)) dL_law_579 ⟨Nat.le_of_ble_eq_true rfl, Nat.le_of_ble_eq_true rfl⟩) hS (fun q _ h => hFc q h) hFc (fun r2 u t H1 locs ht hvm hw hB hz1 hk1 hS => ?_)
  obtain ⟨hP1, hK1, hD1⟩ := hB
  rw [ht] at hP1
  have hK1 := va_K.moved hvm.symm hK1
  obtain ⟨hP, hD⟩ := va_join (wr := [(a13, .inr (0, [.ref ya8, .int 0])), (ya8, .inl (cA20, 1200, .inl f021)), (a24, .inr (3, [.ref b29, .ref t110, .ref t211, .ref t312, .int 0])), (b29, .inr (0, [.ref yb13, .int 0])), (a35, .inr (1, [.ref h114, .ref h215, .ref h316, .int 0, .int 0, .int 0])), (m124, .inl (cI40, 1200, .inl f041))]) (w1 := []) hP hD [5] [0, 1, 2, 3, 4, 6] rfl rfl (by decide) (by decide) hk1 hFc hP1 hD1
  have hK := (hK.sub (tys' := [(cA20, .byte), (cI40, .int)]) [0, 1] rfl).app hK1
  generalize H1 = H at hP hS ⊢
  have hP : va_P (dC, dI) vwCl [(a13, .inr (0, [.ref ya8, .int 0])), (ya8, .inl (cA20, 1200, .inl f021)), (a24, .inr (3, [.ref b29, .ref t110, .ref t211, .ref t312, .int 0])), (b29, .inr (0, [.ref yb13, .int 0])), (a35, .inr (1, [.ref h114, .ref h215, .ref h316, .int 0, .int 0, .int 0])), (m124, .inl (cI40, 1200, .inl f041))] H := hP
  have hD : va_D (fun q : Nat => s.heap.size ≤ q) [(a13, .inr (0, [.ref ya8, .int 0])), (ya8, .inl (cA20, 1200, .inl f021)), (a24, .inr (3, [.ref b29, .ref t110, .ref t211, .ref t312, .int 0])), (b29, .inr (0, [.ref yb13, .int 0])), (a35, .inr (1, [.ref h114, .ref h215, .ref h316, .int 0, .int 0, .int 0])), (m124, .inl (cI40, 1200, .inl f041))] := hD
  have hK : va_K (dC, dI) vwCl [(cA20, .byte), (cI40, .int)] s := hK
  have hw : r2 = (-2) := hw
  subst hw
  refine lv_icmp_eq (tgt := 600) hx hb dL_law_582 (by decide) (fun c_582 => ?_) (fun c_582 => absurd (rfl) c_582)
  exact law_end C0 hS (lv_sub hl [3, 0] rfl)

set_option maxHeartbeats 4000000 in
set_option maxRecDepth 100000 in
theorem law_turn {p : Program} {l : Launch} {e : Env} {s : State} {m : MethodId} {below : List Frame} {meth : Method} {c : Code} {b : Nat} {xs : Nat → Int32} (C0 : lw_At p s m meth c b 4 xs) {dC : Nat → ClassId} {dI : Nat → Nat → Nat} {q1 a13 a24 a35 a46 a57 ya8 b29 t110 t211 t312 yb13 h114 h215 h316 h417 b518 yc19 q22 m124 m225 m326 m427 m528 m629 m730 m831 m932 m1033 m1134 m1235 m1336 m1437 m1538 m1639 : Nat} {cA20 cI40 : ClassId} {f021 f041 : Nat → Int32} {H : Heap} {locs : List Loc} (hK : va_K (dC, dI) vwCl [(cA20, .byte), (cI40, .int)] s) (hP : va_P (dC, dI) vwCl [(q1, .inr (6, [.ref a13, .ref a24, .ref a35, .ref a46, .ref a57, .int (-1), .int 0])), (a13, .inr (0, [.ref ya8, .int 0])), (ya8, .inl (cA20, 1200, .inl f021)), (a24, .inr (3, [.ref b29, .ref t110, .ref t211, .ref t312, .int 0])), (b29, .inr (0, [.ref yb13, .int 0])), (a35, .inr (1, [.ref h114, .ref h215, .ref h316, .int 0, .int 0, .int 0])), (a57, .inr (5, [.ref h417, .ref b518, .int 0])), (b518, .inr (0, [.ref yc19, .int 0])), (q22, .inr (7, [.int 0, .ref m124, .int 0, .int (-1), .int 0, .int 0, .int 0, .ref m225, .int 0, .int 0, .ref m326, .ref m427, .ref m528, .ref m629, .ref m730, .ref m831, .ref m932, .int 0, .ref m1033, .ref m1134, .ref m1235, .int 0, .ref m1336, .ref m1437, .ref m1538, .int 0, .ref m1639, .int 0, .int 0])), (m124, .inl (cI40, 1200, .inl f041))] H) (hD : va_D (fun q : Nat => s.heap.size ≤ q) [(q1, .inr (6, [.ref a13, .ref a24, .ref a35, .ref a46, .ref a57, .int (-1), .int 0])), (a13, .inr (0, [.ref ya8, .int 0])), (ya8, .inl (cA20, 1200, .inl f021)), (a24, .inr (3, [.ref b29, .ref t110, .ref t211, .ref t312, .int 0])), (b29, .inr (0, [.ref yb13, .int 0])), (a35, .inr (1, [.ref h114, .ref h215, .ref h316, .int 0, .int 0, .int 0])), (a57, .inr (5, [.ref h417, .ref b518, .int 0])), (b518, .inr (0, [.ref yc19, .int 0])), (q22, .inr (7, [.int 0, .ref m124, .int 0, .int (-1), .int 0, .int 0, .int 0, .ref m225, .int 0, .int 0, .ref m326, .ref m427, .ref m528, .ref m629, .ref m730, .ref m831, .ref m932, .int 0, .ref m1033, .ref m1134, .ref m1235, .int 0, .ref m1336, .ref m1437, .ref m1538, .int 0, .ref m1639, .int 0, .int 0])), (m124, .inl (cI40, 1200, .inl f041))]) (hS : va_S (fun q : Nat => s.heap.size ≤ q) s.heap H locs) {ls : Array Slot} (hl : lv_has ls 4 [(3, .int 0), (2, .ref q22), (1, .ref q1), (0, .ref b)]) : W p l e room_1 s m #[Value.ref b] below meth c H locs 40 14459 (lw_Z below #[Value.ref b] s) (F0 m 587 ls []) := by
  obtain ⟨hx, hb, hr, hml, hown0, hts0, hX, hbl, hlocks, hgv⟩ := id C0
  have hown : s.vm.findClass RL = some m.cls := hown0
  have hts : ∀ w ∈ pwAll, w.before #[Value.ref b] s = true := fun w h => hts0 w (pwAll_in w h)
  have hA : ∀ q : Nat, s.heap.size ≤ q → (fun q : Nat => s.heap.size ≤ q) q := fun _ h => h
  have hbA : ¬ (fun q : Nat => s.heap.size ≤ q) b := Nat.not_le.mpr hbl
  refine lv_aload_n hx hb dL_law_587 rfl (lv_at hl 2 rfl) ?_
  have hPc := hP.sub (ws' := [(q1, .inr (6, [.ref a13, .ref a24, .ref a35, .ref a46, .ref a57, .int (-1), .int 0])), (a57, .inr (5, [.ref h417, .ref b518, .int 0])), (b518, .inr (0, [.ref yc19, .int 0]))]) [0, 6, 7] rfl
  have hDc := hD.sub (ws' := [(q1, .inr (6, [.ref a13, .ref a24, .ref a35, .ref a46, .ref a57, .int (-1), .int 0])), (a57, .inr (5, [.ref h417, .ref b518, .int 0])), (b518, .inr (0, [.ref yc19, .int 0]))]) [0, 6, 7] (by decide) rfl
  have hKc := hK.sub (tys' := []) [] rfl
  have hFc := va_free (wc := [(q1, .inr (6, [.ref a13, .ref a24, .ref a35, .ref a46, .ref a57, .int (-1), .int 0])), (a57, .inr (5, [.ref h417, .ref b518, .int 0])), (b518, .inr (0, [.ref yc19, .int 0]))]) hD hS hA [0, 6, 7] rfl
  refine va_calli (va_runV (As := []) (rest := []) ⟨hx, hb, hml, hown, hts⟩ (c_X6_turn l dC dI H.size q1 a13 a24 a35 a46 a57 h417 b518 yc19) (cwV 0 hts gg_RL_80 rfl rfl rfl (by decide +kernel) ⟨Nat.le_of_ble_eq_true rfl, Nat.le_of_ble_eq_true rfl⟩) ⟨fun a U g mk q => by obtain ⟨q0, q1, qP, qK, qD⟩ := q; exact ⟨q0, q1, qP, va_K.moved (u := U) (U := U.calling g mk a) (Vm.Alike.refl U.vm) qK, qD⟩, va_recv hK hP (ci := 6) (q0 := 0) rfl rfl, fun U hU hW => ⟨rfl, by rw [hU], by rw [hU]; exact hPc, va_K.moved hW.alike hKc, hDc.weaken (fun _ _ _ _ => trivial)⟩⟩ rfl rfl hl.1 rfl (lv_room (Nat.le_of_ble_eq_true rfl)) dL_law_588 ⟨Nat.le_of_ble_eq_true rfl, Nat.le_of_ble_eq_true rfl⟩) hS (fun q _ h => hFc q h) hFc (fun r1 u t H1 locs ht hvm hw hB hz1 hk1 hS => ?_)
  obtain ⟨hP1, hK1, hD1⟩ := hB
  rw [ht] at hP1
  have hK1 := va_K.moved hvm.symm hK1
  obtain ⟨hP, hD⟩ := va_join (wr := [(a13, .inr (0, [.ref ya8, .int 0])), (ya8, .inl (cA20, 1200, .inl f021)), (a24, .inr (3, [.ref b29, .ref t110, .ref t211, .ref t312, .int 0])), (b29, .inr (0, [.ref yb13, .int 0])), (a35, .inr (1, [.ref h114, .ref h215, .ref h316, .int 0, .int 0, .int 0])), (q22, .inr (7, [.int 0, .ref m124, .int 0, .int (-1), .int 0, .int 0, .int 0, .ref m225, .int 0, .int 0, .ref m326, .ref m427, .ref m528, .ref m629, .ref m730, .ref m831, .ref m932, .int 0, .ref m1033, .ref m1134, .ref m1235, .int 0, .ref m1336, .ref m1437, .ref m1538, .int 0, .ref m1639, .int 0, .int 0])), (m124, .inl (cI40, 1200, .inl f041))]) (w1 := []) hP hD [0, 6, 7] [1, 2, 3, 4, 5, 8, 9] rfl rfl (by decide) (by decide) hk1 hFc hP1 hD1
  have hK := (hK.sub (tys' := [(cA20, .byte), (cI40, .int)]) [0, 1] rfl).app hK1
  generalize H1 = H at hP hS ⊢
  have hP : va_P (dC, dI) vwCl [(a13, .inr (0, [.ref ya8, .int 0])), (ya8, .inl (cA20, 1200, .inl f021)), (a24, .inr (3, [.ref b29, .ref t110, .ref t211, .ref t312, .int 0])), (b29, .inr (0, [.ref yb13, .int 0])), (a35, .inr (1, [.ref h114, .ref h215, .ref h316, .int 0, .int 0, .int 0])), (q22, .inr (7, [.int 0, .ref m124, .int 0, .int (-1), .int 0, .int 0, .int 0, .ref m225, .int 0, .int 0, .ref m326, .ref m427, .ref m528, .ref m629, .ref m730, .ref m831, .ref m932, .int 0, .ref m1033, .ref m1134, .ref m1235, .int 0, .ref m1336, .ref m1437, .ref m1538, .int 0, .ref m1639, .int 0, .int 0])), (m124, .inl (cI40, 1200, .inl f041))] H := hP
  have hD : va_D (fun q : Nat => s.heap.size ≤ q) [(a13, .inr (0, [.ref ya8, .int 0])), (ya8, .inl (cA20, 1200, .inl f021)), (a24, .inr (3, [.ref b29, .ref t110, .ref t211, .ref t312, .int 0])), (b29, .inr (0, [.ref yb13, .int 0])), (a35, .inr (1, [.ref h114, .ref h215, .ref h316, .int 0, .int 0, .int 0])), (q22, .inr (7, [.int 0, .ref m124, .int 0, .int (-1), .int 0, .int 0, .int 0, .ref m225, .int 0, .int 0, .ref m326, .ref m427, .ref m528, .ref m629, .ref m730, .ref m831, .ref m932, .int 0, .ref m1033, .ref m1134, .ref m1235, .int 0, .ref m1336, .ref m1437, .ref m1538, .int 0, .ref m1639, .int 0, .int 0])), (m124, .inl (cI40, 1200, .inl f041))] := hD
  have hK : va_K (dC, dI) vwCl [(cA20, .byte), (cI40, .int)] s := hK
  have hw : r1 = (-4) := hw
  subst hw
  refine lv_aload_n hx hb dL_law_591 rfl (lv_at hl 1 rfl) ?_
  have hPc := hP.sub (ws' := [(q22, .inr (7, [.int 0, .ref m124, .int 0, .int (-1), .int 0, .int 0, .int 0, .ref m225, .int 0, .int 0, .ref m326, .ref m427, .ref m528, .ref m629, .ref m730, .ref m831, .ref m932, .int 0, .ref m1033, .ref m1134, .ref m1235, .int 0, .ref m1336, .ref m1437, .ref m1538, .int 0, .ref m1639, .int 0, .int 0]))]) [5] rfl
  have hDc := hD.sub (ws' := [(q22, .inr (7, [.int 0, .ref m124, .int 0, .int (-1), .int 0, .int 0, .int 0, .ref m225, .int 0, .int 0, .ref m326, .ref m427, .ref m528, .ref m629, .ref m730, .ref m831, .ref m932, .int 0, .ref m1033, .ref m1134, .ref m1235, .int 0, .ref m1336, .ref m1437, .ref m1538, .int 0, .ref m1639, .int 0, .int 0]))]) [5] (by decide) rfl
  have hKc := hK.sub (tys' := []) [] rfl
  have hFc := va_free (wc := [(q22, .inr (7, [.int 0, .ref m124, .int 0, .int (-1), .int 0, .int 0, .int 0, .ref m225, .int 0, .int 0, .ref m326, .ref m427, .ref m528, .ref m629, .ref m730, .ref m831, .ref m932, .int 0, .ref m1033, .ref m1134, .ref m1235, .int 0, .ref m1336, .ref m1437, .ref m1538, .int 0, .ref m1639, .int 0, .int 0]))]) hD hS hA [5] rfl
  refine va_calli (va_runV (As := []) (rest := [.int (-4)]) ⟨hx, hb, hml, hown, hts⟩ (c_X7_turn l dC dI H.size q22 m124 m225 m326 m427 m528 m629 m730 m831 m932 m1033 m1134 m1235 m1336 m1437 m1538 m1639) (cwV 0 hts gg_RL_83 rfl rfl rfl (by decide +kernel) ⟨Nat.le_of_ble_eq_true rfl, Nat.le_of_ble_eq_true rfl⟩) ⟨fun a U g mk q => by obtain ⟨q0, q1, qP, qK, qD⟩ := q; exact ⟨q0, q1, qP, va_K.moved (u := U) (U := U.calling g mk a) (Vm.Alike.refl U.vm) qK, qD⟩, va_recv hK hP (ci := 7) (q0 := 5) rfl rfl, fun U hU hW => ⟨rfl, by rw [hU], by rw [hU]; exact hPc, va_K.moved hW.alike hKc, hDc.weaken (fun _ _ _ _ => trivial)⟩⟩ rfl rfl hl.1 rfl (lv_room (Nat.le_of_ble_eq_true rfl)) dL_law_592 ⟨Nat.le_of_ble_eq_true rfl, Nat.le_of_ble_eq_true rfl⟩) hS (fun q _ h => hFc q h) hFc (fun r2 u t H1 locs ht hvm hw hB hz1 hk1 hS => ?_)
  obtain ⟨hP1, hK1, hD1⟩ := hB
  rw [ht] at hP1
  have hK1 := va_K.moved hvm.symm hK1
  obtain ⟨hP, hD⟩ := va_join (wr := [(a13, .inr (0, [.ref ya8, .int 0])), (ya8, .inl (cA20, 1200, .inl f021)), (a24, .inr (3, [.ref b29, .ref t110, .ref t211, .ref t312, .int 0])), (b29, .inr (0, [.ref yb13, .int 0])), (a35, .inr (1, [.ref h114, .ref h215, .ref h316, .int 0, .int 0, .int 0])), (m124, .inl (cI40, 1200, .inl f041))]) (w1 := []) hP hD [5] [0, 1, 2, 3, 4, 6] rfl rfl (by decide) (by decide) hk1 hFc hP1 hD1
  have hK := (hK.sub (tys' := [(cA20, .byte), (cI40, .int)]) [0, 1] rfl).app hK1
  generalize H1 = H at hP hS ⊢
  have hP : va_P (dC, dI) vwCl [(a13, .inr (0, [.ref ya8, .int 0])), (ya8, .inl (cA20, 1200, .inl f021)), (a24, .inr (3, [.ref b29, .ref t110, .ref t211, .ref t312, .int 0])), (b29, .inr (0, [.ref yb13, .int 0])), (a35, .inr (1, [.ref h114, .ref h215, .ref h316, .int 0, .int 0, .int 0])), (m124, .inl (cI40, 1200, .inl f041))] H := hP
  have hD : va_D (fun q : Nat => s.heap.size ≤ q) [(a13, .inr (0, [.ref ya8, .int 0])), (ya8, .inl (cA20, 1200, .inl f021)), (a24, .inr (3, [.ref b29, .ref t110, .ref t211, .ref t312, .int 0])), (b29, .inr (0, [.ref yb13, .int 0])), (a35, .inr (1, [.ref h114, .ref h215, .ref h316, .int 0, .int 0, .int 0])), (m124, .inl (cI40, 1200, .inl f041))] := hD
  have hK : va_K (dC, dI) vwCl [(cA20, .byte), (cI40, .int)] s := hK
  have hw : r2 = (-4) := hw
  subst hw
  refine lv_icmp_eq (tgt := 600) hx hb dL_law_595 (by decide) (fun c_595 => ?_) (fun c_595 => absurd (rfl) c_595)
  exact law_end C0 hS (lv_sub hl [3, 0] rfl)
end
section
set_option maxHeartbeats 4000000 in
set_option maxRecDepth 100000 in
theorem whole_start {p : Program} {e : Env} {s : State} {m : MethodId} {below : List Frame} {meth : Method} {c : Code} (l : Launch) (hflags : l.flags = flags0) {b L : Nat} {xs : Nat → Int32} (hL : L ≤ 4) (C0 : lw_At p s m meth c b L xs) : W p l e room_1 s m #[Value.ref b] below meth c s.heap [] 0 0 (lw_Z below #[Value.ref b] s) (entryFrame m ([Value.ref b] : List Value).toArray 4) := by
  obtain ⟨hx, hb, hr, hml, hown0, hts0, hX, hbl, hlocks, hgv⟩ := id C0
  have hown : s.vm.findClass RL = some m.cls := hown0
  have hts : ∀ w ∈ pwAll, w.before #[Value.ref b] s = true := fun w h => hts0 w (pwAll_in w h)
  have hA : ∀ q : Nat, s.heap.size ≤ q → (fun q : Nat => s.heap.size ≤ q) q := fun _ h => h
  have hbA : ¬ (fun q : Nat => s.heap.size ≤ q) b := Nat.not_le.mpr hbl
  obtain ⟨c0, iS0, hKn0⟩ := u_known (C := RX0) (T := TX0) (N := 2) (n := 2) hts inAll_0 (hts (.instantiable RX0 2) k_18)
  obtain ⟨c1, iS1, hKn1⟩ := u_known (C := RX1) (T := TX1) (N := 6) (n := 6) hts inAll_1 (hts (.instantiable RX1 6) k_69)
  obtain ⟨c2, iS2, hKn2⟩ := u_known (C := RX2) (T := TX2) (N := 5) (n := 5) hts inAll_2 (hts (.instantiable RX2 5) k_76)
  obtain ⟨c3, iS3, hKn3⟩ := u_known (C := RX3) (T := TX3) (N := 5) (n := 5) hts inAll_3 (hts (.instantiable RX3 5) k_62)
  obtain ⟨c4, iS4, hKn4⟩ := u_known (C := RX4) (T := TX4) (N := 3) (n := 3) hts inAll_4 (hts (.instantiable RX4 3) k_25)
  obtain ⟨c5, iS5, hKn5⟩ := u_known (C := RX5) (T := TX5) (N := 3) (n := 3) hts inAll_5 (hts (.instantiable RX5 3) k_83)
  obtain ⟨c6, iS6, hKn6⟩ := u_known (C := RX6) (T := TX6) (N := 7) (n := 7) hts inAll_6 (hts (.instantiable RX6 7) k_187)
  obtain ⟨c7, iS7, hKn7⟩ := u_known (C := RX7) (T := TX7) (N := 29) (n := 29) hts inAll_7 (hts (.instantiable RX7 29) k_192)
  obtain ⟨dC, dI, hKc⟩ : ∃ (dC : Nat → ClassId) (dI : Nat → Nat → Nat), ∀ (k : Nat) (q : vw_C), vwCl[k]? = some q → u_Kn s q.1 q.2.1 q.2.2 (dC k) (dI k) := by
    refine ⟨fun k => if k = 0 then c0 else if k = 1 then c1 else if k = 2 then c2 else if k = 3 then c3 else if k = 4 then c4 else if k = 5 then c5 else if k = 6 then c6 else c7, fun k => if k = 0 then iS0 else if k = 1 then iS1 else if k = 2 then iS2 else if k = 3 then iS3 else if k = 4 then iS4 else if k = 5 then iS5 else if k = 6 then iS6 else iS7, ?_⟩
    intro k q hq
    match k, hq with
    | 0, hq => cases hq; exact hKn0
    | 1, hq => cases hq; exact hKn1
    | 2, hq => cases hq; exact hKn2
    | 3, hq => cases hq; exact hKn3
    | 4, hq => cases hq; exact hKn4
    | 5, hq => cases hq; exact hKn5
    | 6, hq => cases hq; exact hKn6
    | 7, hq => cases hq; exact hKn7
    | k + 8, hq => simp [vwCl] at hq
  have hS : va_S (fun q : Nat => s.heap.size ≤ q) s.heap s.heap [] := va_S.rf
  have hK : va_K (dC, dI) vwCl [] s := ⟨hKc, fun k q h => by simp at h⟩
  have hP : va_P (dC, dI) vwCl [] s.heap := fun k q h => by simp at h
  have hD : va_D (fun q : Nat => s.heap.size ≤ q) [] := ⟨fun i j p q h => by simp at h, fun k q h => by simp at h⟩
  have hl := lv_entry ([.ref b]) (n := 4) (Nat.le_of_ble_eq_true rfl)
  rw [lg_entry_eq]
  generalize (lg_sl ([.ref b]) ++ List.replicate (4 - (lg_sl ([.ref b])).length) Slot.unset).toArray = ls at hl ⊢
  have hl : lv_has ls 4 [(0, .ref b)] := hl
  refine va_new (ci := 6) (fs := [.null, .null, .null, .null, .null, .int 0, .int 0]) (C := RX6) (T := TX6) (N := 7) hx hb hts inAll_6 tyX6 tyX6_ok hown (hts (.classLink RL 7 RX6) k_186) (hts (.instantiable RX6 7) k_187) (hts (.initialized RX6) k_144) hK hP hD hS hA rfl (fun j hj => by rcases (show j = 0 ∨ j = 1 ∨ j = 2 ∨ j = 3 ∨ j = 4 ∨ j = 5 ∨ j = 6 by omega) with rfl | rfl | rfl | rfl | rfl | rfl | rfl <;> rfl) (Nat.le_of_ble_eq_true rfl) (Nat.le_of_ble_eq_true rfl) dL_law_0 (fun q1 H hP hD hS => ?_)
  have hP : va_P (dC, dI) vwCl [(q1, .inr (6, [.null, .null, .null, .null, .null, .int 0, .int 0]))] H := hP
  have hD : va_D (fun q : Nat => s.heap.size ≤ q) [(q1, .inr (6, [.null, .null, .null, .null, .null, .int 0, .int 0]))] := hD
  refine W.widen (k := 1) (n := 7) (Nat.le_of_ble_eq_true rfl) (Nat.le_of_ble_eq_true rfl) ?_
  refine lv_dup hx hb dL_law_3 rfl ?_
  have hPc := hP.sub (ws' := [(q1, .inr (6, [.null, .null, .null, .null, .null, .int 0, .int 0]))]) [0] rfl
  have hDc := hD.sub (ws' := [(q1, .inr (6, [.null, .null, .null, .null, .null, .int 0, .int 0]))]) [0] (by decide) rfl
  have hKc := hK.sub (tys' := []) [] rfl
  have hFc := va_free (wc := [(q1, .inr (6, [.null, .null, .null, .null, .null, .int 0, .int 0]))]) hD hS hA [0] rfl
  refine va_callv (va_runI (As := []) (rest := [.ref q1]) ⟨hx, hb, hml, hown, hts⟩ (c_X6_init l dC dI H.size q1) (cwI 0 hts gg_i_X6_init rfl rfl rfl (hts (.initialized RX6) k_144) (hts (.methodLink RL 9 yX6_init) k_189) (hts (.instanceMethod yX6_init) k_190) rfl (by decide +kernel) ⟨Nat.le_of_ble_eq_true rfl, Nat.le_of_ble_eq_true rfl⟩) ⟨fun a U g mk q => by obtain ⟨q0, q1, qP, qK, qD⟩ := q; exact ⟨q0, q1, qP, va_K.moved (u := U) (U := U.calling g mk a) (Vm.Alike.refl U.vm) qK, qD⟩, fun U hU hW => ⟨rfl, by rw [hU], by rw [hU]; exact hPc, va_K.moved hW.alike hKc, hDc.weaken (fun _ _ _ _ => trivial)⟩⟩ rfl rfl hl.1 rfl (lv_room (Nat.le_of_ble_eq_true rfl)) dL_law_4 ⟨Nat.le_of_ble_eq_true rfl, Nat.le_of_ble_eq_true rfl⟩) hS (fun q _ h => hFc q h) hFc (fun u t H1 locs ht hvm hw hB hz1 hk1 hS => ?_)
  obtain ⟨a13, a24, a35, a46, a57, ya8, b29, t110, t211, t312, yb13, h114, h215, h316, h417, b518, yc19, cA20, f021, hP1, hK1, hD1⟩ := hB
  rw [ht] at hP1
  have hK1 := va_K.moved hvm.symm hK1
  obtain ⟨hP, hD⟩ := va_join (wr := []) (w1 := [(q1, .inr (6, [.ref a13, .ref a24, .ref a35, .ref a46, .ref a57, .int (-1), .int 0])), (a13, .inr (0, [.ref ya8, .int 0])), (ya8, .inl (cA20, 1200, .inl f021)), (a24, .inr (3, [.ref b29, .ref t110, .ref t211, .ref t312, .int 0])), (b29, .inr (0, [.ref yb13, .int 0])), (a35, .inr (1, [.ref h114, .ref h215, .ref h316, .int 0, .int 0, .int 0])), (a57, .inr (5, [.ref h417, .ref b518, .int 0])), (b518, .inr (0, [.ref yc19, .int 0]))]) hP hD [0] [] rfl rfl (by decide) (by decide) hk1 hFc hP1 hD1
  have hK := (hK.sub (tys' := []) [] rfl).app hK1
  generalize H1 = H at hP hS ⊢
  have hP : va_P (dC, dI) vwCl [(q1, .inr (6, [.ref a13, .ref a24, .ref a35, .ref a46, .ref a57, .int (-1), .int 0])), (a13, .inr (0, [.ref ya8, .int 0])), (ya8, .inl (cA20, 1200, .inl f021)), (a24, .inr (3, [.ref b29, .ref t110, .ref t211, .ref t312, .int 0])), (b29, .inr (0, [.ref yb13, .int 0])), (a35, .inr (1, [.ref h114, .ref h215, .ref h316, .int 0, .int 0, .int 0])), (a57, .inr (5, [.ref h417, .ref b518, .int 0])), (b518, .inr (0, [.ref yc19, .int 0]))] H := hP
  have hD : va_D (fun q : Nat => s.heap.size ≤ q) [(q1, .inr (6, [.ref a13, .ref a24, .ref a35, .ref a46, .ref a57, .int (-1), .int 0])), (a13, .inr (0, [.ref ya8, .int 0])), (ya8, .inl (cA20, 1200, .inl f021)), (a24, .inr (3, [.ref b29, .ref t110, .ref t211, .ref t312, .int 0])), (b29, .inr (0, [.ref yb13, .int 0])), (a35, .inr (1, [.ref h114, .ref h215, .ref h316, .int 0, .int 0, .int 0])), (a57, .inr (5, [.ref h417, .ref b518, .int 0])), (b518, .inr (0, [.ref yc19, .int 0]))] := hD
  have hK : va_K (dC, dI) vwCl [(cA20, .byte)] s := hK
  refine W.widen (k := 23) (n := 6838) (Nat.le_of_ble_eq_true rfl) (Nat.le_of_ble_eq_true rfl) ?_
  refine lv_astore_n (lv' := [(1, .ref q1), (0, .ref b)]) hx hb dL_law_7 rfl hl (by decide) rfl (fun ls hl => ?_)
  refine va_new (ci := 7) (fs := [.int 0, .null, .int 0, .int 0, .int 0, .int 0, .int 0, .null, .int 0, .int 0, .null, .null, .null, .null, .null, .null, .null, .int 0, .null, .null, .null, .int 0, .null, .null, .null, .int 0, .null, .int 0, .int 0]) (C := RX7) (T := TX7) (N := 29) hx hb hts inAll_7 tyX7 tyX7_ok hown (hts (.classLink RL 10 RX7) k_191) (hts (.instantiable RX7 29) k_192) (hts (.initialized RX7) k_174) hK hP hD hS hA rfl (fun j hj => by rcases (show j = 0 ∨ j = 1 ∨ j = 2 ∨ j = 3 ∨ j = 4 ∨ j = 5 ∨ j = 6 ∨ j = 7 ∨ j = 8 ∨ j = 9 ∨ j = 10 ∨ j = 11 ∨ j = 12 ∨ j = 13 ∨ j = 14 ∨ j = 15 ∨ j = 16 ∨ j = 17 ∨ j = 18 ∨ j = 19 ∨ j = 20 ∨ j = 21 ∨ j = 22 ∨ j = 23 ∨ j = 24 ∨ j = 25 ∨ j = 26 ∨ j = 27 ∨ j = 28 by omega) with rfl | rfl | rfl | rfl | rfl | rfl | rfl | rfl | rfl | rfl | rfl | rfl | rfl | rfl | rfl | rfl | rfl | rfl | rfl | rfl | rfl | rfl | rfl | rfl | rfl | rfl | rfl | rfl | rfl <;> rfl) (Nat.le_of_ble_eq_true rfl) (Nat.le_of_ble_eq_true rfl) dL_law_8 (fun q22 H hP hD hS => ?_)
  have hP : va_P (dC, dI) vwCl [(q1, .inr (6, [.ref a13, .ref a24, .ref a35, .ref a46, .ref a57, .int (-1), .int 0])), (a13, .inr (0, [.ref ya8, .int 0])), (ya8, .inl (cA20, 1200, .inl f021)), (a24, .inr (3, [.ref b29, .ref t110, .ref t211, .ref t312, .int 0])), (b29, .inr (0, [.ref yb13, .int 0])), (a35, .inr (1, [.ref h114, .ref h215, .ref h316, .int 0, .int 0, .int 0])), (a57, .inr (5, [.ref h417, .ref b518, .int 0])), (b518, .inr (0, [.ref yc19, .int 0])), (q22, .inr (7, [.int 0, .null, .int 0, .int 0, .int 0, .int 0, .int 0, .null, .int 0, .int 0, .null, .null, .null, .null, .null, .null, .null, .int 0, .null, .null, .null, .int 0, .null, .null, .null, .int 0, .null, .int 0, .int 0]))] H := hP
  have hD : va_D (fun q : Nat => s.heap.size ≤ q) [(q1, .inr (6, [.ref a13, .ref a24, .ref a35, .ref a46, .ref a57, .int (-1), .int 0])), (a13, .inr (0, [.ref ya8, .int 0])), (ya8, .inl (cA20, 1200, .inl f021)), (a24, .inr (3, [.ref b29, .ref t110, .ref t211, .ref t312, .int 0])), (b29, .inr (0, [.ref yb13, .int 0])), (a35, .inr (1, [.ref h114, .ref h215, .ref h316, .int 0, .int 0, .int 0])), (a57, .inr (5, [.ref h417, .ref b518, .int 0])), (b518, .inr (0, [.ref yc19, .int 0])), (q22, .inr (7, [.int 0, .null, .int 0, .int 0, .int 0, .int 0, .int 0, .null, .int 0, .int 0, .null, .null, .null, .null, .null, .null, .null, .int 0, .null, .null, .null, .int 0, .null, .null, .null, .int 0, .null, .int 0, .int 0]))] := hD
  refine W.widen (k := 24) (n := 6867) (Nat.le_of_ble_eq_true rfl) (Nat.le_of_ble_eq_true rfl) ?_
  refine lv_dup hx hb dL_law_11 rfl ?_
  have hPc := hP.sub (ws' := [(q22, .inr (7, [.int 0, .null, .int 0, .int 0, .int 0, .int 0, .int 0, .null, .int 0, .int 0, .null, .null, .null, .null, .null, .null, .null, .int 0, .null, .null, .null, .int 0, .null, .null, .null, .int 0, .null, .int 0, .int 0]))]) [8] rfl
  have hDc := hD.sub (ws' := [(q22, .inr (7, [.int 0, .null, .int 0, .int 0, .int 0, .int 0, .int 0, .null, .int 0, .int 0, .null, .null, .null, .null, .null, .null, .null, .int 0, .null, .null, .null, .int 0, .null, .null, .null, .int 0, .null, .int 0, .int 0]))]) [8] (by decide) rfl
  have hKc := hK.sub (tys' := []) [] rfl
  have hFc := va_free (wc := [(q22, .inr (7, [.int 0, .null, .int 0, .int 0, .int 0, .int 0, .int 0, .null, .int 0, .int 0, .null, .null, .null, .null, .null, .null, .null, .int 0, .null, .null, .null, .int 0, .null, .null, .null, .int 0, .null, .int 0, .int 0]))]) hD hS hA [8] rfl
  refine va_callv (va_runI (As := []) (rest := [.ref q22]) ⟨hx, hb, hml, hown, hts⟩ (c_X7_init l dC dI H.size q22) (cwI 0 hts gg_i_X7_init rfl rfl rfl (hts (.initialized RX7) k_174) (hts (.methodLink RL 12 yX7_init) k_194) (hts (.instanceMethod yX7_init) k_195) rfl (by decide +kernel) ⟨Nat.le_of_ble_eq_true rfl, Nat.le_of_ble_eq_true rfl⟩) ⟨fun a U g mk q => by obtain ⟨q0, q1, qP, qK, qD⟩ := q; exact ⟨q0, q1, qP, va_K.moved (u := U) (U := U.calling g mk a) (Vm.Alike.refl U.vm) qK, qD⟩, fun U hU hW => ⟨rfl, by rw [hU], by rw [hU]; exact hPc, va_K.moved hW.alike hKc, hDc.weaken (fun _ _ _ _ => trivial)⟩⟩ rfl rfl hl.1 rfl (lv_room (Nat.le_of_ble_eq_true rfl)) dL_law_12 ⟨Nat.le_of_ble_eq_true rfl, Nat.le_of_ble_eq_true rfl⟩) hS (fun q _ h => hFc q h) hFc (fun u t H1 locs ht hvm hw hB hz1 hk1 hS => ?_)
  obtain ⟨m124, m225, m326, m427, m528, m629, m730, m831, m932, m1033, m1134, m1235, m1336, m1437, m1538, m1639, cI40, f041, hP1, hK1, hD1⟩ := hB
  rw [ht] at hP1
  have hK1 := va_K.moved hvm.symm hK1
  obtain ⟨hP, hD⟩ := va_join (wr := [(q1, .inr (6, [.ref a13, .ref a24, .ref a35, .ref a46, .ref a57, .int (-1), .int 0])), (a13, .inr (0, [.ref ya8, .int 0])), (ya8, .inl (cA20, 1200, .inl f021)), (a24, .inr (3, [.ref b29, .ref t110, .ref t211, .ref t312, .int 0])), (b29, .inr (0, [.ref yb13, .int 0])), (a35, .inr (1, [.ref h114, .ref h215, .ref h316, .int 0, .int 0, .int 0])), (a57, .inr (5, [.ref h417, .ref b518, .int 0])), (b518, .inr (0, [.ref yc19, .int 0]))]) (w1 := [(q22, .inr (7, [.int 0, .ref m124, .int 0, .int (-1), .int 0, .int 0, .int 0, .ref m225, .int 0, .int 0, .ref m326, .ref m427, .ref m528, .ref m629, .ref m730, .ref m831, .ref m932, .int 0, .ref m1033, .ref m1134, .ref m1235, .int 0, .ref m1336, .ref m1437, .ref m1538, .int 0, .ref m1639, .int 0, .int 0])), (m124, .inl (cI40, 1200, .inl f041))]) hP hD [8] [0, 1, 2, 3, 4, 5, 6, 7] rfl rfl (by decide) (by decide) hk1 hFc hP1 hD1
  have hK := (hK.sub (tys' := [(cA20, .byte)]) [0] rfl).app hK1
  generalize H1 = H at hP hS ⊢
  have hP : va_P (dC, dI) vwCl [(q1, .inr (6, [.ref a13, .ref a24, .ref a35, .ref a46, .ref a57, .int (-1), .int 0])), (a13, .inr (0, [.ref ya8, .int 0])), (ya8, .inl (cA20, 1200, .inl f021)), (a24, .inr (3, [.ref b29, .ref t110, .ref t211, .ref t312, .int 0])), (b29, .inr (0, [.ref yb13, .int 0])), (a35, .inr (1, [.ref h114, .ref h215, .ref h316, .int 0, .int 0, .int 0])), (a57, .inr (5, [.ref h417, .ref b518, .int 0])), (b518, .inr (0, [.ref yc19, .int 0])), (q22, .inr (7, [.int 0, .ref m124, .int 0, .int (-1), .int 0, .int 0, .int 0, .ref m225, .int 0, .int 0, .ref m326, .ref m427, .ref m528, .ref m629, .ref m730, .ref m831, .ref m932, .int 0, .ref m1033, .ref m1134, .ref m1235, .int 0, .ref m1336, .ref m1437, .ref m1538, .int 0, .ref m1639, .int 0, .int 0])), (m124, .inl (cI40, 1200, .inl f041))] H := hP
  have hD : va_D (fun q : Nat => s.heap.size ≤ q) [(q1, .inr (6, [.ref a13, .ref a24, .ref a35, .ref a46, .ref a57, .int (-1), .int 0])), (a13, .inr (0, [.ref ya8, .int 0])), (ya8, .inl (cA20, 1200, .inl f021)), (a24, .inr (3, [.ref b29, .ref t110, .ref t211, .ref t312, .int 0])), (b29, .inr (0, [.ref yb13, .int 0])), (a35, .inr (1, [.ref h114, .ref h215, .ref h316, .int 0, .int 0, .int 0])), (a57, .inr (5, [.ref h417, .ref b518, .int 0])), (b518, .inr (0, [.ref yc19, .int 0])), (q22, .inr (7, [.int 0, .ref m124, .int 0, .int (-1), .int 0, .int 0, .int 0, .ref m225, .int 0, .int 0, .ref m326, .ref m427, .ref m528, .ref m629, .ref m730, .ref m831, .ref m932, .int 0, .ref m1033, .ref m1134, .ref m1235, .int 0, .ref m1336, .ref m1437, .ref m1538, .int 0, .ref m1639, .int 0, .int 0])), (m124, .inl (cI40, 1200, .inl f041))] := hD
  have hK : va_K (dC, dI) vwCl [(cA20, .byte), (cI40, .int)] s := hK
  refine W.widen (k := 40) (n := 14459) (Nat.le_of_ble_eq_true rfl) (Nat.le_of_ble_eq_true rfl) ?_
  refine lv_astore_n (lv' := [(2, .ref q22), (1, .ref q1), (0, .ref b)]) hx hb dL_law_15 rfl hl (by decide) rfl (fun ls hl => ?_)
  refine lv_iconst (v := 0) hx hb dL_law_16 (by decide) ?_
  refine lv_istore_n (lv' := [(3, .int 0), (2, .ref q22), (1, .ref q1), (0, .ref b)]) hx hb dL_law_17 rfl hl (by decide) rfl (fun ls hl => ?_)
  by_cases hL4 : L = 4
  · subst hL4
    refine lv_iload_n hx hb dL_law_18 rfl (lv_at hl 0 rfl) ?_
    refine lv_aload_n hx hb dL_law_19 rfl (lv_at hl 3 rfl) ?_
    refine va_slen hx hb hX hbl hbA hS dL_law_20 ?_
    refine lv_iconst (v := 4) hx hb dL_law_21 (by decide) ?_
    refine lv_isub hx hb dL_law_22 ?_
    refine pf_top (y := 0) (by decide) ?_
    refine lv_icmp_gt (tgt := 606) hx hb dL_law_23 (by decide) (fun c_23 => absurd c_23 (by decide)) (fun c_23 => ?_)
    refine lv_aload_n hx hb dL_law_26 rfl (lv_at hl 3 rfl) ?_
    refine lv_iload_n hx hb dL_law_27 rfl (lv_at hl 0 rfl) ?_
    refine va_sld hx hb hX hbl hbA hS pf_i0 dL_law_28 ?_
    refine lv_bipush (v := 15) hx hb dL_law_29 (by decide) ?_
    refine lv_iand hx hb dL_law_31 ?_
    obtain ⟨j, hj, ej⟩ := pk_andE (xs (0 : Int32).toNatClampNeg) (m := 15) 4 (by decide)
    refine pf_top (y := nI j) ej ?_
    have hj : j < 16 := hj
    rcases (show j = 0 ∨ j = 1 ∨ j = 2 ∨ j = 3 ∨ j = 4 ∨ j = 5 ∨ j = 6 ∨ j = 7 ∨ j = 8 ∨ j = 9 ∨ j = 10 ∨ j = 11 ∨ j = 12 ∨ j = 13 ∨ j = 14 ∨ j = 15 by omega) with rfl | rfl | rfl | rfl | rfl | rfl | rfl | rfl | rfl | rfl | rfl | rfl | rfl | rfl | rfl | rfl
    · refine lv_tableIn (off := 80) (tgt := 112) hx hb dL_law_32 (by decide) (by decide) rfl (by decide) ?_
      exact law_feed C0 hK hP hD hS hl
    · refine lv_tableIn (off := 143) (tgt := 175) hx hb dL_law_32 (by decide) (by decide) rfl (by decide) ?_
      exact law_set C0 hK hP hD hS hl
    · refine lv_tableIn (off := 176) (tgt := 208) hx hb dL_law_32 (by decide) (by decide) rfl (by decide) ?_
      exact law_cut C0 hK hP hD hS hl
    · refine lv_tableIn (off := 199) (tgt := 231) hx hb dL_law_32 (by decide) (by decide) rfl (by decide) ?_
      exact law_read C0 hK hP hD hS hl
    · refine lv_tableIn (off := 212) (tgt := 244) hx hb dL_law_32 (by decide) (by decide) rfl (by decide) ?_
      exact law_where C0 hK hP hD hS hl
    · refine lv_tableIn (off := 225) (tgt := 257) hx hb dL_law_32 (by decide) (by decide) rfl (by decide) ?_
      exact law_count C0 hK hP hD hS hl
    · refine lv_tableIn (off := 248) (tgt := 280) hx hb dL_law_32 (by decide) (by decide) rfl (by decide) ?_
      exact law_group C0 hK hP hD hS hl
    · refine lv_tableIn (off := 281) (tgt := 313) hx hb dL_law_32 (by decide) (by decide) rfl (by decide) ?_
      exact law_setOf C0 hK hP hD hS hl
    · refine lv_tableIn (off := 314) (tgt := 346) hx hb dL_law_32 (by decide) (by decide) rfl (by decide) ?_
      exact law_fault C0 hK hP hD hS hl
    · refine lv_tableIn (off := 357) (tgt := 389) hx hb dL_law_32 (by decide) (by decide) rfl (by decide) ?_
      exact law_level C0 hK hP hD hS hl
    · refine lv_tableIn (off := 400) (tgt := 432) hx hb dL_law_32 (by decide) (by decide) rfl (by decide) ?_
      exact law_claim C0 hK hP hD hS hl
    · refine lv_tableIn (off := 443) (tgt := 475) hx hb dL_law_32 (by decide) (by decide) rfl (by decide) ?_
      exact law_size C0 hK hP hD hS hl
    · refine lv_tableIn (off := 476) (tgt := 508) hx hb dL_law_32 (by decide) (by decide) rfl (by decide) ?_
      exact law_byteOf C0 hK hP hD hS hl
    · refine lv_tableIn (off := 519) (tgt := 551) hx hb dL_law_32 (by decide) (by decide) rfl (by decide) ?_
      exact law_answer C0 hK hP hD hS hl
    · refine lv_tableIn (off := 532) (tgt := 564) hx hb dL_law_32 (by decide) (by decide) rfl (by decide) ?_
      exact law_answered C0 hK hP hD hS hl
    · refine lv_tableIn (off := 555) (tgt := 587) hx hb dL_law_32 (by decide) (by decide) rfl (by decide) ?_
      exact law_turn C0 hK hP hD hS hl
  · skip
    refine lv_iload_n hx hb dL_law_18 rfl (lv_at hl 0 rfl) ?_
    refine lv_aload_n hx hb dL_law_19 rfl (lv_at hl 3 rfl) ?_
    refine va_slen hx hb hX hbl hbA hS dL_law_20 ?_
    refine lv_iconst (v := 4) hx hb dL_law_21 (by decide) ?_
    refine lv_isub hx hb dL_law_22 ?_
    refine lv_icmp_gt (tgt := 606) hx hb dL_law_23 (by decide) (fun c_23 => ?_) (fun c_23 => absurd (pf_short hL hL4) c_23)
    refine lv_iconst (v := 1) hx hb dL_law_606 (by decide) ?_
    refine va_forget (fun q hq => hS.2.2 q hq) ?_
    refine W.widen (k := 600000) (n := 7302250) (Nat.le_of_ble_eq_true rfl) (Nat.le_of_ble_eq_true rfl) ?_
    exact lw_ret hx hb hr hlocks dL_law_607
end
section
set_option maxHeartbeats 4000000 in
theorem lw_walk (l : Launch) (hflags : l.flags = flags0) (b : Addr) (xs : List Int32) : MetFree l x (headSpec (Jvm.Cond.code x code maxLocals ret :: tables_1) room_1) (lw_P b xs) (fun _ _ _ _ _ => True) lw_Q := by
  refine MetFree.of_bodyS (code := code) (maxLocals := maxLocals) (ret := ret) (by decide) ?_ ?_
  · intro args s m h hn
    obtain ⟨meth, c, h1, h2, h3, h4, h5, h6, -, -⟩ := Cond.code_spec hn (atoms_spec (ws := Jvm.Cond.code x code maxLocals ret :: tables_1) h _ List.mem_cons_self)
    exact ⟨meth, c, h1, h2, h3, h4, h5, h6⟩
  · intro p e s m args below meth c s₁ B hml0 hP _
    obtain ⟨rfl, hx, hbd, hgv⟩ := hP
    obtain ⟨scr, harrAt, hlist, hof, hsmall⟩ := hx
    obtain ⟨hcb, hkn, -, -⟩ := State.arrayAt?_spec harrAt
    have hown : s.vm.findClass R_law = some m.cls := findClass_of_methodNamed B.named
    have hts0 : ∀ c ∈ (Jvm.Cond.code x code maxLocals ret :: tables_1), c.before #[Value.ref b] s = true := atoms_spec (ws := Jvm.Cond.code x code maxLocals ret :: tables_1) B.pre
    have hts : ∀ w ∈ lw_tbl, w.before #[Value.ref b] s = true := k2_hts_sels lw_privs (fun w hw => hts0 w (List.mem_cons_of_mem _ hw)) lw_privs_ok
    have hml : c.maxLocals = 4 := B.maxLocals_eq (hts0 _ List.mem_cons_self)
    have X₀ : Stand p l e room_1 s m #[Value.ref b] below meth c s₁ [] 0 0 := Stand.of_body B
    have hh0 : s₁.heap = s.heap := by rw [B.state]; rfl
    have hsz : scr.slots.size = xs.length := by rw [← Array.length_toList, hlist, List.length_map]
    have hval : ∀ j : Nat, j < xs.length → scr.slots[j]? = some (.int (xs.getD j 0)) := fun j hj => by
      rw [← Array.getElem?_toList, hlist]
      simp [hj]
    have hbl : b < s.heap.size := (Array.getElem?_eq_some_iff.mp hcb).1
    have hX : va_X b xs.length (fun j => xs.getD j 0) s s.heap := ⟨scr, hcb, hof, hkn, hsz, hval⟩
    have K : W p l e room_1 s m #[Value.ref b] below meth c s₁.heap [] 0 0 (lw_Z below #[Value.ref b] s) (entryFrame m ([Value.ref b] : List Value).toArray 4) := by
      rw [hh0]
      exact whole_start l hflags hbd ⟨B.exec, B.bytes, B.returns, hml, hown, hts, hX, hbl, B.notSynchronized, hgv⟩
    obtain ⟨t, a1, o, b1, b2, b3⟩ := K s₁ rfl X₀
    exact ⟨t, o, a1, b1, b2, b3⟩
theorem lw_pre_spec {args : Array Value} {s : State} (h : (Jvm.Cond.and given_1 narrow_1).before args s = true) (hr : rest_1_c.before args s = true) : ∃ (b : Addr) (xs : List Int32), lw_P b xs args s := by
  have hs := flat_of_before _ h
  have hq := flat_of_before _ hr
  have hc : (Cond.count 1).before args s = true := hs _ (by decide +kernel)
  have harr : (Cond.arrayOf (.arg 0) .int).before args s = true := hs _ (by decide +kernel)
  have hle : (Cond.le (.length (.arg 0)) (.int 4)).before args s = true := hs _ (by decide +kernel)
  have hlen : (Cond.isInt (.length (.arg 0))).before args s = true := hq _ (by decide +kernel)
  have hall : (Cond.all (.arg 0) (.isInt (.elem (.arg 0) (.index 0)))).before args s = true := hq _ (by decide +kernel)
  obtain ⟨b, xs, hb, hx⟩ := State.ints_of_pre rfl harr hlen hall
  have hsm : xs.length < 2 ^ 31 := hx.choose_spec.2.2.2
  have hev : (Term.length (.arg 0)).eval args s none [] s = some (.int xs.length.toInt32) := hx.length_eval hb
  have hv := Cond.le_ints hev (show (Term.int 4).eval args s none [] s = some (.int 4) from rfl)
  have hd : xs.length.toInt32 ≤ 4 := by
    simpa [Cond.before, Cond.holds, hv] using hle
  have hN : xs.length ≤ 4 := (Int32.ofNat_le_ofNat hsm (by decide)).mp (show Int32.ofNat xs.length ≤ Int32.ofNat 4 from hd)
  exact ⟨b, xs, Cond.one_arg hc (show args[0]? = some (.ref b) from hb), hx, hN, h⟩
theorem lw_comes (l : Launch) (hflags : l.flags = flags0) : Comes l x (Jvm.Cond.code x code maxLocals ret :: tables_1) room_1 (fun tb e args s => Calls_1 tb e args s ∧ rest_1 tb e args s ∧ Pre_1 tb e args s)
    (fun _ _ args s o t => lw_Q args s o t) := by
  intro p e ha hc hk s m args below hf hfit hheap happ hpre
  obtain ⟨b, xs, hP⟩ := lw_pre_spec hpre.2.2 hpre.2.1
  obtain ⟨k, o, h1, h2, h3, hQ⟩ := lw_walk l hflags b xs p e ha hc hk s m args below hf ((Spec.applies_iff_loose hf).mp happ).1 hP trivial
  exact ⟨k, o, h1, h2, h3, hQ⟩
theorem lw_frame {s t : State} {o : Outcome} {args : Array Value} (h : Framed s o t [] 600000 7302250) :
    Framed s o t (fieldLocs frame_1_writes args s ++ arrayLocs frame_1_arrays args s ++ staticLocs frame_1_statics s) 600000 7302250 := h
theorem lw_limb (L : Cond) (hL : ∀ (args : Array Value) (s t : State), L.after args s (.returned (some (.int 1))) t = true) :
    ArmFor flags0 classFile x code maxLocals ret World_1 tables_1 room_1 Calls_1 rest_1 Pre_1
      (fun tb e a s o t => postC L tb e a s o t ∧ Framed s o t (fieldLocs frame_1_writes a s ++ arrayLocs frame_1_arrays a s ++ staticLocs frame_1_statics s) 600000 7302250) := by
  intro l hflags _ _ p e ha hc hk s m args below hf hfit hheap happ hpre
  obtain ⟨k, o, h1, h2, h3, rfl, hF⟩ := lw_comes l hflags p e ha hc hk s m args below hf hfit hheap happ hpre
  exact ⟨k, _, h1, h2, h3, hL args s _, lw_frame hF⟩
theorem i_vc : Claimed_1_1 ∧ Claimed_1_2 := ⟨lw_limb limb_1_1 (fun args s t => by simp [limb_1_1, Cond.after, Cond.holds, Cond.value]), lw_limb limb_1_2 (fun args s t => Cond.after_iff.mpr (by
  first | (rw [show limb_1_2 = Cond.eq .result (.int 1) from rfl, Cond.eq_ints (x := 1) (y := 1) rfl rfl]; simp; done) | (simp [limb_1_2, Cond.value, Term.eval]; done)))⟩
end
